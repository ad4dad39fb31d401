theorem hi_X5_count_X5 : ∀ w ∈ u_ws RX5 TX5 48, w ∈ wsX5_count := fun w h => (List.mem_cons_of_mem _ (List.mem_append_right _ h))
set_option maxHeartbeats 4000000 in
set_option maxRecDepth 100000 in
theorem mt_X5_count (l : Launch) (D : va_G) (cI cZ : ClassId) (ad : Nat → Nat) (F : Nat → Int32) (G : Nat → Nat → Int32) (x1 : Int32) (rv : Int32) (h : f_X5_count F G x1 = some rv) : Met l yX5_count wsX5_count ({ frames := 2, cells := 0, slots := 0, locals := 45 } : Room) (va_Pc [.ref (ad 99), .int x1] (mR D cI cZ ad F G)) (vp_Si (fun z => z = rv)) 0 0 (fun _ => False) := by
  refine Met.ofW (cc := cX5_count) (maxL := 4) (ret := (some .int)) (by decide) rfl ?_
  intro p e s m args below meth c s₁ B hml hv
  obtain ⟨rfl, hP, hK, hN⟩ := hv
  have hx := B.exec
  have hb := B.bytes
  have hr := B.returns
  have hts := atoms_spec (ws := wsX5_count) B.pre
  have hown : s.vm.findClass RX5 = some m.cls := findClass_of_methodNamed B.named
  have hlocks := B.notSynchronized
  have hl := lv_entry ([.ref (ad 99), .int x1]) (n := 4) (Nat.le_of_ble_eq_true rfl)
  rw [lg_entry_eq]
  generalize (lg_sl ([.ref (ad 99), .int x1]) ++ List.replicate (4 - (lg_sl ([.ref (ad 99), .int x1])).length) Slot.unset).toArray = ls at hl ⊢
  have hl : lv_has ls 4 [(0, .ref (ad 99)), (1, .int (x1))] := hl
  have j56 : ∀ n56 : Nat, ∀ (x2 : Int32) (x3 : Int32) , ∀ ls : Array Slot, lv_has ls 4 [(0, .ref (ad 99)), (2, .int (x2)), (3, .int (x3))] → f_X5_count_L56 F G x1 n56 x2 x3 = some rv → W p l e (headSpec wsX5_count ({ frames := 2, cells := 0, slots := 0, locals := 45 } : Room)).room s m (List.toArray ([.ref (ad 99), .int x1] : List Value)) below meth c s.heap [] 0 0 (MQ below (vp_Si (fun z => z = rv)) (List.toArray ([.ref (ad 99), .int x1] : List Value)) s 0 0 (fun _ => False)) (F0 m 56 ls []) := by
    intro n56
    induction n56 with
    | zero =>
      intro x2 x3 ls hl h
      cases h
    | succ n56 ih56 =>
      have j78 : ∀ (x3 : Int32) (s0 : Int32) (s1 : Int32) , ∀ ls : Array Slot, lv_has ls 4 [(0, .ref (ad 99)), (3, .int (x3))] → f_X5_count_B78 (f_X5_count_L56 F G x1 n56) F G x1 x3 s0 s1 = some rv → W p l e (headSpec wsX5_count ({ frames := 2, cells := 0, slots := 0, locals := 45 } : Room)).room s m (List.toArray ([.ref (ad 99), .int x1] : List Value)) below meth c s.heap [] 0 0 (MQ below (vp_Si (fun z => z = rv)) (List.toArray ([.ref (ad 99), .int x1] : List Value)) s 0 0 (fun _ => False)) (F0 m 78 ls [.int (s1), .int (s0)]) := by
        intro x3 s0 s1 ls hl h
        refine lv_iadd hx hb dX5_count_78 ?_
        refine q_nm h (fun v1 h => ?_)
        refine lv_istore_n (lv' := [(2, .int (v1)), (0, .ref (ad 99)), (3, .int (x3))]) hx hb dX5_count_79 rfl hl (by decide) rfl (fun ls hl => ?_)
        refine q_iinc (j := 2) (d := (1 : Int32)) (lv2 := fun v2 => [(3, .int (v2)), (2, .int (v1)), (0, .ref (ad 99))]) hx hb dX5_count_80 hl rfl (by decide) (by decide) (fun _ => rfl) h (fun v2 ls hl h => ?_)
        refine lv_goto (tgt := 56) hx hb dX5_count_83 (by decide) ?_
        exact ih56 v1 v2 _ (lv_sub hl [2, 1, 0] rfl) h
      intro x2 x3 ls hl h
      replace h : f_X5_count_L56_b (f_X5_count_L56 F G x1 n56) F G x1 x2 x3 = some rv := h
      refine lv_iload_n hx hb dX5_count_56 rfl (lv_at hl 2 rfl) ?_
      refine lv_bipush (v := 12) hx hb dX5_count_57 (by decide) ?_
      refine q_icmp_ge (tgt := 86) hx hb dX5_count_59 (by decide) h (fun h => ?_) (fun h => ?_)
      · refine lv_iload_n hx hb dX5_count_86 rfl (lv_at hl 1 rfl) ?_
        exact W.iret hx hb hr (fun t ht hW => ⟨_, rfl, Option.some.inj h, ht⟩) (fun q hq9 => by cases hq9) dX5_count_87
      · refine lv_iload_n hx hb dX5_count_62 rfl (lv_at hl 1 rfl) ?_
        refine lv_aload_n hx hb dX5_count_63 rfl (lv_at hl 0 rfl) ?_
        refine lv_iload_n hx hb dX5_count_64 rfl (lv_at hl 2 rfl) ?_
        refine lv_iconst (v := 1) hx hb dX5_count_65 (by decide) ?_
        obtain ⟨v3, hc4, h⟩ := q_some h
        refine q_cs (W.runV (C := RX5) (As := [.int (x3), .int ((1 : Int32))]) (rest := [.int (x2)]) ⟨hx, hb, hml, hown, hts⟩ (mt_X5_lastColumn l D cI cZ ad F G x3 (1 : Int32) v3 hc4) (cwV 2 hts gX5_count_X5_lastColumn rfl rfl rfl (by decide +kernel) ⟨Nat.le_of_ble_eq_true rfl, Nat.le_of_ble_eq_true rfl⟩) ⟨mR_b, va_recv hK hP (ci := 5) (q0 := 0) rfl rfl, (mR_p hP hK hN).2⟩ rfl rfl hl.1 rfl (lv_room (Nat.le_of_ble_eq_true rfl)) dX5_count_66 ⟨Nat.le_of_ble_eq_true rfl, Nat.le_of_ble_eq_true rfl⟩) ?_
        refine lv_iconst (v := -1) hx hb dX5_count_69 (by decide) ?_
        refine q_icmp_eq (tgt := 77) hx hb dX5_count_70 (by decide) h (fun h => ?_) (fun h => ?_)
        · refine lv_iconst (v := 0) hx hb dX5_count_77 (by decide) ?_
          exact j78 x3 x2 (0 : Int32) _ (lv_sub hl [0, 2] rfl) h
        · refine lv_iconst (v := 1) hx hb dX5_count_73 (by decide) ?_
          refine lv_goto (tgt := 78) hx hb dX5_count_74 (by decide) ?_
          exact j78 x3 x2 (1 : Int32) _ (lv_sub hl [0, 2] rfl) h
  refine lv_iconst (v := 0) hx hb dX5_count_0 (by decide) ?_
  refine q_nm h (fun v5 h => ?_)
  refine lv_istore_n (lv' := [(2, .int (v5)), (0, .ref (ad 99)), (1, .int (x1))]) hx hb dX5_count_1 rfl hl (by decide) rfl (fun ls hl => ?_)
  refine lv_iload_n hx hb dX5_count_2 rfl (lv_at hl 2 rfl) ?_
  rcases q_ite _ h with ⟨c0, h⟩ | ⟨c0, h⟩
  · refine lv_tableIn (tgt := 44) hx hb dX5_count_3 (by rw [c0]; decide) (by rw [c0]; decide) (by rw [c0]; rfl) (by decide) ?_
    refine lv_sipush (v := 144) hx hb dX5_count_44 (by decide) ?_
    refine lv_aload_n hx hb dX5_count_47 rfl (lv_at hl 1 rfl) ?_
    refine lv_iconst (v := -1) hx hb dX5_count_48 (by decide) ?_
    obtain ⟨v6, hc7, h⟩ := q_some h
    refine q_cs (W.runV (C := RX5) (As := [.int ((-1 : Int32))]) (rest := [.int ((144 : Int32))]) ⟨hx, hb, hml, hown, hts⟩ (mt_X5_beadsOf l D cI cZ ad F G (-1 : Int32) v6 hc7) (cwV 1 hts gX5_count_X5_beadsOf rfl rfl rfl (by decide +kernel) ⟨Nat.le_of_ble_eq_true rfl, Nat.le_of_ble_eq_true rfl⟩) ⟨mR_b, va_recv hK hP (ci := 5) (q0 := 0) rfl rfl, (mR_p hP hK hN).2⟩ rfl rfl hl.1 rfl (lv_room (Nat.le_of_ble_eq_true rfl)) dX5_count_49 ⟨Nat.le_of_ble_eq_true rfl, Nat.le_of_ble_eq_true rfl⟩) ?_
    refine lv_isub hx hb dX5_count_52 ?_
    exact W.iret hx hb hr (fun t ht hW => ⟨_, rfl, Option.some.inj h, ht⟩) (fun q hq9 => by cases hq9) dX5_count_53
  rcases q_ite _ h with ⟨c1, h⟩ | ⟨c1, h⟩
  · refine lv_tableIn (tgt := 54) hx hb dX5_count_3 (by rw [c1]; decide) (by rw [c1]; decide) (by rw [c1]; rfl) (by decide) ?_
    refine lv_iconst (v := 0) hx hb dX5_count_54 (by decide) ?_
    refine q_nm h (fun v8 h => ?_)
    refine lv_istore_n (lv' := [(3, .int (v8)), (2, .int (v5)), (0, .ref (ad 99)), (1, .int (x1))]) hx hb dX5_count_55 rfl hl (by decide) rfl (fun ls hl => ?_)
    exact j56 1000 v5 v8 _ (lv_sub hl [2, 1, 0] rfl) h
  rcases q_ite _ h with ⟨c2, h⟩ | ⟨c2, h⟩
  · refine lv_tableIn (tgt := 88) hx hb dX5_count_3 (by rw [c2]; decide) (by rw [c2]; decide) (by rw [c2]; rfl) (by decide) ?_
    refine lv_aload_n hx hb dX5_count_88 rfl (lv_at hl 1 rfl) ?_
    refine va_get hx hb hts hi_X5_count_X5 hown hK hP 0 (m_o99 cI cZ ad F G) rfl 1 (by decide) (hts _ (List.mem_of_getElem? (i := 1) rfl)) (fun _ h9 => h9) rfl dX5_count_89 ?_
    exact W.iret hx hb hr (fun t ht hW => ⟨_, rfl, Option.some.inj h, ht⟩) (fun q hq9 => by cases hq9) dX5_count_92
  rcases q_ite _ h with ⟨c3, h⟩ | ⟨c3, h⟩
  · refine lv_tableIn (tgt := 93) hx hb dX5_count_3 (by rw [c3]; decide) (by rw [c3]; decide) (by rw [c3]; rfl) (by decide) ?_
    refine lv_aload_n hx hb dX5_count_93 rfl (lv_at hl 1 rfl) ?_
    refine va_get hx hb hts hi_X5_count_X5 hown hK hP 0 (m_o99 cI cZ ad F G) rfl 2 (by decide) (hts _ (List.mem_of_getElem? (i := 2) rfl)) (fun _ h9 => h9) rfl dX5_count_94 ?_
    exact W.iret hx hb hr (fun t ht hW => ⟨_, rfl, Option.some.inj h, ht⟩) (fun q hq9 => by cases hq9) dX5_count_97
  rcases q_ite _ h with ⟨c4, h⟩ | ⟨c4, h⟩
  · refine lv_tableIn (tgt := 98) hx hb dX5_count_3 (by rw [c4]; decide) (by rw [c4]; decide) (by rw [c4]; rfl) (by decide) ?_
    refine lv_aload_n hx hb dX5_count_98 rfl (lv_at hl 1 rfl) ?_
    refine va_get hx hb hts hi_X5_count_X5 hown hK hP 0 (m_o99 cI cZ ad F G) rfl 6 (by decide) (hts _ (List.mem_of_getElem? (i := 3) rfl)) (fun _ h9 => h9) rfl dX5_count_99 ?_
    exact W.iret hx hb hr (fun t ht hW => ⟨_, rfl, Option.some.inj h, ht⟩) (fun q hq9 => by cases hq9) dX5_count_102
  rcases q_ite _ h with ⟨c5, h⟩ | ⟨c5, h⟩
  · refine lv_tableIn (tgt := 103) hx hb dX5_count_3 (by rw [c5]; decide) (by rw [c5]; decide) (by rw [c5]; rfl) (by decide) ?_
    refine lv_aload_n hx hb dX5_count_103 rfl (lv_at hl 1 rfl) ?_
    refine va_get hx hb hts hi_X5_count_X5 hown hK hP 0 (m_o99 cI cZ ad F G) rfl 7 (by decide) (hts _ (List.mem_of_getElem? (i := 4) rfl)) (fun _ h9 => h9) rfl dX5_count_104 ?_
    exact W.iret hx hb hr (fun t ht hW => ⟨_, rfl, Option.some.inj h, ht⟩) (fun q hq9 => by cases hq9) dX5_count_107
  rcases q_ite _ h with ⟨c6, h⟩ | ⟨c6, h⟩
  · refine lv_tableIn (tgt := 108) hx hb dX5_count_3 (by rw [c6]; decide) (by rw [c6]; decide) (by rw [c6]; rfl) (by decide) ?_
    refine lv_aload_n hx hb dX5_count_108 rfl (lv_at hl 1 rfl) ?_
    refine va_get hx hb hts hi_X5_count_X5 hown hK hP 0 (m_o99 cI cZ ad F G) rfl 32 (by decide) (hts _ (List.mem_of_getElem? (i := 5) rfl)) (fun _ h9 => h9) rfl dX5_count_109 ?_
    exact W.iret hx hb hr (fun t ht hW => ⟨_, rfl, Option.some.inj h, ht⟩) (fun q hq9 => by cases hq9) dX5_count_112
  refine lv_tableOut (tgt := 113) hx hb dX5_count_3 (by have n0 := lv_neT (a := 0) c0 (by decide); have n1 := lv_neT (a := 1) c1 (by decide); have n2 := lv_neT (a := 2) c2 (by decide); have n3 := lv_neT (a := 3) c3 (by decide); have n4 := lv_neT (a := 4) c4 (by decide); have n5 := lv_neT (a := 5) c5 (by decide); have n6 := lv_neT (a := 6) c6 (by decide); omega) (by decide) ?_
  refine lv_iload_n hx hb dX5_count_113 rfl (lv_at hl 2 rfl) ?_
  refine lv_bipush (v := 10) hx hb dX5_count_114 (by decide) ?_
  refine lv_bipush (v := 15) hx hb dX5_count_116 (by decide) ?_
  obtain ⟨v9, hc10, h⟩ := q_some h
  refine q_cs (W.runS (As := [.int (x1), .int ((10 : Int32)), .int ((15 : Int32))]) (rest := []) ⟨hx, hb, hml, hown, hts⟩ (mt_X5_in l x1 (10 : Int32) (15 : Int32) v9 hc10) (va_cwS 3 hts gX5_count_X5_in rfl rfl rfl (by decide +kernel) ⟨Nat.le_of_ble_eq_true rfl, Nat.le_of_ble_eq_true rfl⟩) q_pr0 rfl rfl hl.1 rfl (lv_room (Nat.le_of_ble_eq_true rfl)) dX5_count_118 ⟨Nat.le_of_ble_eq_true rfl, Nat.le_of_ble_eq_true rfl⟩) ?_
  refine q_if_eq (tgt := 133) hx hb dX5_count_121 (by decide) h (fun h => ?_) (fun h => ?_)
  · refine lv_iload_n hx hb dX5_count_133 rfl (lv_at hl 2 rfl) ?_
    refine lv_bipush (v := 20) hx hb dX5_count_134 (by decide) ?_
    refine lv_bipush (v := 25) hx hb dX5_count_136 (by decide) ?_
    obtain ⟨v11, hc12, h⟩ := q_some h
    refine q_cs (W.runS (As := [.int (x1), .int ((20 : Int32)), .int ((25 : Int32))]) (rest := []) ⟨hx, hb, hml, hown, hts⟩ (mt_X5_in l x1 (20 : Int32) (25 : Int32) v11 hc12) (va_cwS 3 hts gX5_count_X5_in rfl rfl rfl (by decide +kernel) ⟨Nat.le_of_ble_eq_true rfl, Nat.le_of_ble_eq_true rfl⟩) q_pr0 rfl rfl hl.1 rfl (lv_room (Nat.le_of_ble_eq_true rfl)) dX5_count_138 ⟨Nat.le_of_ble_eq_true rfl, Nat.le_of_ble_eq_true rfl⟩) ?_
    refine q_if_eq (tgt := 156) hx hb dX5_count_141 (by decide) h (fun h => ?_) (fun h => ?_)
    · refine lv_iconst (v := -1) hx hb dX5_count_156 (by decide) ?_
      exact W.iret hx hb hr (fun t ht hW => ⟨_, rfl, Option.some.inj h, ht⟩) (fun q hq9 => by cases hq9) dX5_count_157
    · refine lv_aload_n hx hb dX5_count_144 rfl (lv_at hl 1 rfl) ?_
      refine va_get hx hb hts hi_X5_count_X5 hown hK hP 0 (m_o99 cI cZ ad F G) rfl 3 (by decide) (hts _ (List.mem_of_getElem? (i := 6) rfl)) (fun _ h9 => h9) rfl dX5_count_145 ?_
      refine lv_iload_n hx hb dX5_count_148 rfl (lv_at hl 2 rfl) ?_
      refine lv_bipush (v := 20) hx hb dX5_count_149 (by decide) ?_
      refine lv_isub hx hb dX5_count_151 ?_
      refine q_ld hx hb hK hP 2 0 (m_a3 cI cZ ad F G) rfl dX5_count_152 h (fun v13 h => ?_)
      refine lv_goto (tgt := 157) hx hb dX5_count_153 (by decide) ?_
      exact W.iret hx hb hr (fun t ht hW => ⟨_, rfl, Option.some.inj h, ht⟩) (fun q hq9 => by cases hq9) dX5_count_157
  · refine lv_aload_n hx hb dX5_count_124 rfl (lv_at hl 1 rfl) ?_
    refine lv_iload_n hx hb dX5_count_125 rfl (lv_at hl 2 rfl) ?_
    refine lv_bipush (v := 10) hx hb dX5_count_126 (by decide) ?_
    refine lv_isub hx hb dX5_count_128 ?_
    obtain ⟨v14, hc15, h⟩ := q_some h
    refine q_cs (W.runV (C := RX5) (As := [.int ((x1 - (10 : Int32)))]) (rest := []) ⟨hx, hb, hml, hown, hts⟩ (mt_X5_beadsOf l D cI cZ ad F G ((x1 - (10 : Int32))) v14 hc15) (cwV 1 hts gX5_count_X5_beadsOf rfl rfl rfl (by decide +kernel) ⟨Nat.le_of_ble_eq_true rfl, Nat.le_of_ble_eq_true rfl⟩) ⟨mR_b, va_recv hK hP (ci := 5) (q0 := 0) rfl rfl, (mR_p hP hK hN).2⟩ rfl rfl hl.1 rfl (lv_room (Nat.le_of_ble_eq_true rfl)) dX5_count_129 ⟨Nat.le_of_ble_eq_true rfl, Nat.le_of_ble_eq_true rfl⟩) ?_
    exact W.iret hx hb hr (fun t ht hW => ⟨_, rfl, Option.some.inj h, ht⟩) (fun q hq9 => by cases hq9) dX5_count_132
theorem hi_X5_finds_X5 : ∀ w ∈ u_ws RX5 TX5 48, w ∈ wsX5_finds := fun w h => (List.mem_cons_of_mem _ (List.mem_append_right _ h))
set_option maxHeartbeats 4000000 in
set_option maxRecDepth 100000 in
theorem mt_X5_finds_29 (l : Launch) (D : va_G) (cI cZ : ClassId) (ad : Nat → Nat) (F : Nat → Int32) (G : Nat → Nat → Int32) (x2 : Int32) (rv : Int32) (Fz : Nat → Int32) (Gz : Nat → Nat → Int32) (hDD : va_D (fun _ => True) (mW cI cZ ad (fun _ => 0) (fun _ _ => 0))) (h : f_X5_finds_29 F G x2 = some (rv, Fz, Gz)) : Met l yX5_finds wsX5_finds ({ frames := 0, cells := 0, slots := 0, locals := 0 } : Room) (va_Pc [.ref (ad 99), .ref (ad 29), .int x2] (mR D cI cZ ad F G)) (va_Qi (fun z (_ : Unit) => z = rv) (fun _ t => va_P D vwCl (mW cI cZ ad Fz Gz) t.heap) (mA cI cZ ad)) 0 0 (mA cI cZ ad) := by
  refine Met.ofW (cc := cX5_finds) (maxL := 7) (ret := (some .boolean)) (by decide) rfl ?_
  intro p e s m args below meth c s₁ B hml hv
  obtain ⟨rfl, hP, hK, hN⟩ := hv
  have hx := B.exec
  have hb := B.bytes
  have hr := B.returns
  have hts := atoms_spec (ws := wsX5_finds) B.pre
  have hown : s.vm.findClass RX5 = some m.cls := findClass_of_methodNamed B.named
  have hlocks := B.notSynchronized
  have hS : va_S (mA cI cZ ad) s.heap s.heap [] := va_S.rf
  have hl := lv_entry ([.ref (ad 99), .ref (ad 29), .int x2]) (n := 7) (Nat.le_of_ble_eq_true rfl)
  rw [lg_entry_eq]
  generalize (lg_sl ([.ref (ad 99), .ref (ad 29), .int x2]) ++ List.replicate (7 - (lg_sl ([.ref (ad 99), .ref (ad 29), .int x2])).length) Slot.unset).toArray = ls at hl ⊢
  have hl : lv_has ls 7 [(0, .ref (ad 99)), (1, .ref (ad 29)), (2, .int (x2))] := hl
  have j110 : ∀ (F : Nat → Int32) (G : Nat → Nat → Int32) (x3 : Int32) (H : Heap) (locs : List Loc) , va_P D vwCl (mW cI cZ ad F G) H → va_S (mA cI cZ ad) s.heap H locs → ∀ ls : Array Slot, lv_has ls 7 [(0, .ref (ad 99)), (3, .int (x3))] → f_X5_finds_29_B110 x2 F G x3 = some (rv, Fz, Gz) → W p l e (headSpec wsX5_finds ({ frames := 0, cells := 0, slots := 0, locals := 0 } : Room)).room s m (List.toArray ([.ref (ad 99), .ref (ad 29), .int x2] : List Value)) below meth c H locs 0 0 (MQ below (va_Qi (fun z (_ : Unit) => z = rv) (fun _ t => va_P D vwCl (mW cI cZ ad Fz Gz) t.heap) (mA cI cZ ad)) (List.toArray ([.ref (ad 99), .ref (ad 29), .int x2] : List Value)) s 0 0 (mA cI cZ ad)) (F0 m 110 ls []) := by
    intro F G x3 H locs hP hS ls hl h
    refine lv_iload_n hx hb dX5_finds_110 rfl (lv_at hl 1 rfl) ?_
    refine lv_aload_n hx hb dX5_finds_111 rfl (lv_at hl 0 rfl) ?_
    refine va_get hx hb hts hi_X5_finds_X5 hown hK hP 0 (m_o99 cI cZ ad F G) rfl 7 (by decide) (hts _ (List.mem_of_getElem? (i := 2) rfl)) (fun _ h9 => h9) rfl dX5_finds_112 ?_
    refine q_icmp_ne (tgt := 122) hx hb dX5_finds_115 (by decide) h (fun h => ?_) (fun h => ?_)
    · refine lv_iconst (v := 0) hx hb dX5_finds_122 (by decide) ?_
      have e1 := congrArg Prod.fst (Option.some.inj h)
      have e2 := congrArg (fun z => z.2.1) (Option.some.inj h)
      have e3 := congrArg (fun z => z.2.2) (Option.some.inj h)
      dsimp only at e1 e2 e3
      exact W.zret hx hb hr rfl (fun t ht hW => ⟨⟨_, (), rfl, e1, by show va_P D vwCl _ t.heap; rw [ht, ← e2, ← e3]; exact hP⟩, hS.F ht⟩) hS.2.2 dX5_finds_123
    · refine lv_iconst (v := 1) hx hb dX5_finds_118 (by decide) ?_
      refine lv_goto (tgt := 123) hx hb dX5_finds_119 (by decide) ?_
      have e1 := congrArg Prod.fst (Option.some.inj h)
      have e2 := congrArg (fun z => z.2.1) (Option.some.inj h)
      have e3 := congrArg (fun z => z.2.2) (Option.some.inj h)
      dsimp only at e1 e2 e3
      exact W.zret hx hb hr rfl (fun t ht hW => ⟨⟨_, (), rfl, e1, by show va_P D vwCl _ t.heap; rw [ht, ← e2, ← e3]; exact hP⟩, hS.F ht⟩) hS.2.2 dX5_finds_123
  have j10 : ∀ n10 : Nat, ∀ (F : Nat → Int32) (G : Nat → Nat → Int32) (x3 : Int32) (x4 : Int32) (H : Heap) (locs : List Loc) , va_P D vwCl (mW cI cZ ad F G) H → va_S (mA cI cZ ad) s.heap H locs → ∀ ls : Array Slot, lv_has ls 7 [(0, .ref (ad 99)), (1, .ref (ad 29)), (2, .int (x2)), (3, .int (x3)), (4, .int (x4))] → f_X5_finds_29_L10 x2 n10 F G x3 x4 = some (rv, Fz, Gz) → W p l e (headSpec wsX5_finds ({ frames := 0, cells := 0, slots := 0, locals := 0 } : Room)).room s m (List.toArray ([.ref (ad 99), .ref (ad 29), .int x2] : List Value)) below meth c H locs 0 0 (MQ below (va_Qi (fun z (_ : Unit) => z = rv) (fun _ t => va_P D vwCl (mW cI cZ ad Fz Gz) t.heap) (mA cI cZ ad)) (List.toArray ([.ref (ad 99), .ref (ad 29), .int x2] : List Value)) s 0 0 (mA cI cZ ad)) (F0 m 10 ls []) := by
    intro n10
    induction n10 with
    | zero =>
      intro F G x3 x4 H locs hP hS ls hl h
      cases h
    | succ n10 ih10 =>
      have j104 : ∀ (F : Nat → Int32) (G : Nat → Nat → Int32) (x3 : Int32) (x4 : Int32) (H : Heap) (locs : List Loc) , va_P D vwCl (mW cI cZ ad F G) H → va_S (mA cI cZ ad) s.heap H locs → ∀ ls : Array Slot, lv_has ls 7 [(0, .ref (ad 99)), (1, .ref (ad 29)), (2, .int (x2)), (3, .int (x3)), (4, .int (x4))] → f_X5_finds_29_B104 (f_X5_finds_29_L10 x2 n10) x2 F G x3 x4 = some (rv, Fz, Gz) → W p l e (headSpec wsX5_finds ({ frames := 0, cells := 0, slots := 0, locals := 0 } : Room)).room s m (List.toArray ([.ref (ad 99), .ref (ad 29), .int x2] : List Value)) below meth c H locs 0 0 (MQ below (va_Qi (fun z (_ : Unit) => z = rv) (fun _ t => va_P D vwCl (mW cI cZ ad Fz Gz) t.heap) (mA cI cZ ad)) (List.toArray ([.ref (ad 99), .ref (ad 29), .int x2] : List Value)) s 0 0 (mA cI cZ ad)) (F0 m 104 ls []) := by
        intro F G x3 x4 H locs hP hS ls hl h
        refine q_iinc (j := 4) (d := (-1 : Int32)) (lv2 := fun v1 => [(4, .int (v1)), (0, .ref (ad 99)), (1, .ref (ad 29)), (2, .int (x2)), (3, .int (x3))]) hx hb dX5_finds_104 hl rfl (by decide) (by decide) (fun _ => rfl) h (fun v1 ls hl h => ?_)
        refine lv_goto (tgt := 10) hx hb dX5_finds_107 (by decide) ?_
        exact ih10 F G x3 v1 _ _ hP hS _ (lv_sub hl [1, 2, 3, 4, 0] rfl) h
      have j76 : ∀ (F : Nat → Int32) (G : Nat → Nat → Int32) (x3 : Int32) (x4 : Int32) (x5 : Int32) (H : Heap) (locs : List Loc) , va_P D vwCl (mW cI cZ ad F G) H → va_S (mA cI cZ ad) s.heap H locs → ∀ ls : Array Slot, lv_has ls 7 [(0, .ref (ad 99)), (1, .ref (ad 29)), (2, .int (x2)), (3, .int (x3)), (4, .int (x4)), (5, .int (x5))] → f_X5_finds_29_B76 (f_X5_finds_29_L10 x2 n10) x2 F G x3 x4 x5 = some (rv, Fz, Gz) → W p l e (headSpec wsX5_finds ({ frames := 0, cells := 0, slots := 0, locals := 0 } : Room)).room s m (List.toArray ([.ref (ad 99), .ref (ad 29), .int x2] : List Value)) below meth c H locs 0 0 (MQ below (va_Qi (fun z (_ : Unit) => z = rv) (fun _ t => va_P D vwCl (mW cI cZ ad Fz Gz) t.heap) (mA cI cZ ad)) (List.toArray ([.ref (ad 99), .ref (ad 29), .int x2] : List Value)) s 0 0 (mA cI cZ ad)) (F0 m 76 ls []) := by
        intro F G x3 x4 x5 H locs hP hS ls hl h
        refine lv_iload hx hb dX5_finds_76 (lv_at hl 5 rfl) ?_
        refine lv_aload_n hx hb dX5_finds_78 rfl (lv_at hl 0 rfl) ?_
        refine va_get hx hb hts hi_X5_finds_X5 hown hK hP 0 (m_o99 cI cZ ad F G) rfl 3 (by decide) (hts _ (List.mem_of_getElem? (i := 5) rfl)) (fun _ h9 => h9) rfl dX5_finds_79 ?_
        refine lv_aload_n hx hb dX5_finds_82 rfl (lv_at hl 0 rfl) ?_
        refine va_get hx hb hts hi_X5_finds_X5 hown hK hP 0 (m_o99 cI cZ ad F G) rfl 14 (by decide) (hts _ (List.mem_of_getElem? (i := 6) rfl)) (fun _ h9 => h9) rfl dX5_finds_83 ?_
        refine lv_iload hx hb dX5_finds_86 (lv_at hl 4 rfl) ?_
        refine q_ld hx hb hK hP 10 0 (m_a14 cI cZ ad F G) rfl dX5_finds_88 h (fun v2 h => ?_)
        refine q_ld hx hb hK hP 2 0 (m_a3 cI cZ ad F G) rfl dX5_finds_89 h (fun v3 h => ?_)
        refine q_icmp_lt (tgt := 96) hx hb dX5_finds_90 (by decide) h (fun h => ?_) (fun h => ?_)
        · refine lv_aload_n hx hb dX5_finds_96 rfl (lv_at hl 1 rfl) ?_
          refine lv_iload_n hx hb dX5_finds_97 rfl (lv_at hl 3 rfl) ?_
          refine lv_iload hx hb dX5_finds_98 (lv_at hl 4 rfl) ?_
          refine q_st hx hb hK hP (mW_D hDD _ _) hS 15 0 29 (fun z => mW cI cZ ad F z) (m_a29 cI cZ ad F G) rfl (m_g29 cI cZ ad F G _) dX5_finds_100 h (fun G4 H locs h hP hS => ?_)
          refine q_iinc (j := 3) (d := (1 : Int32)) (lv2 := fun v5 => [(3, .int (v5)), (0, .ref (ad 99)), (1, .ref (ad 29)), (2, .int (x2)), (4, .int (x4)), (5, .int (x5))]) hx hb dX5_finds_101 hl rfl (by decide) (by decide) (fun _ => rfl) h (fun v5 ls hl h => ?_)
          exact j104 F G4 v5 x4 _ _ hP hS _ (lv_sub hl [1, 2, 3, 0, 4] rfl) h
        · refine lv_goto (tgt := 104) hx hb dX5_finds_93 (by decide) ?_
          exact j104 F G x3 x4 _ _ hP hS _ (lv_sub hl [0, 1, 2, 3, 4] rfl) h
      have j35 : ∀ n35 : Nat, ∀ (F : Nat → Int32) (G : Nat → Nat → Int32) (x3 : Int32) (x4 : Int32) (x5 : Int32) (x6 : Int32) (H : Heap) (locs : List Loc) , va_P D vwCl (mW cI cZ ad F G) H → va_S (mA cI cZ ad) s.heap H locs → ∀ ls : Array Slot, lv_has ls 7 [(0, .ref (ad 99)), (1, .ref (ad 29)), (2, .int (x2)), (3, .int (x3)), (4, .int (x4)), (5, .int (x5)), (6, .int (x6))] → f_X5_finds_29_L35 (f_X5_finds_29_L10 x2 n10) x2 n35 F G x3 x4 x5 x6 = some (rv, Fz, Gz) → W p l e (headSpec wsX5_finds ({ frames := 0, cells := 0, slots := 0, locals := 0 } : Room)).room s m (List.toArray ([.ref (ad 99), .ref (ad 29), .int x2] : List Value)) below meth c H locs 0 0 (MQ below (va_Qi (fun z (_ : Unit) => z = rv) (fun _ t => va_P D vwCl (mW cI cZ ad Fz Gz) t.heap) (mA cI cZ ad)) (List.toArray ([.ref (ad 99), .ref (ad 29), .int x2] : List Value)) s 0 0 (mA cI cZ ad)) (F0 m 35 ls []) := by
        intro n35
        induction n35 with
        | zero =>
          intro F G x3 x4 x5 x6 H locs hP hS ls hl h
          cases h
        | succ n35 ih35 =>
          have j67 : ∀ (F : Nat → Int32) (G : Nat → Nat → Int32) (x3 : Int32) (x4 : Int32) (x6 : Int32) (s0 : Int32) (s1 : Int32) (H : Heap) (locs : List Loc) , va_P D vwCl (mW cI cZ ad F G) H → va_S (mA cI cZ ad) s.heap H locs → ∀ ls : Array Slot, lv_has ls 7 [(0, .ref (ad 99)), (1, .ref (ad 29)), (2, .int (x2)), (3, .int (x3)), (4, .int (x4)), (6, .int (x6))] → f_X5_finds_29_B67 (f_X5_finds_29_L10 x2 n10) (f_X5_finds_29_L35 (f_X5_finds_29_L10 x2 n10) x2 n35) x2 F G x3 x4 x6 s0 s1 = some (rv, Fz, Gz) → W p l e (headSpec wsX5_finds ({ frames := 0, cells := 0, slots := 0, locals := 0 } : Room)).room s m (List.toArray ([.ref (ad 99), .ref (ad 29), .int x2] : List Value)) below meth c H locs 0 0 (MQ below (va_Qi (fun z (_ : Unit) => z = rv) (fun _ t => va_P D vwCl (mW cI cZ ad Fz Gz) t.heap) (mA cI cZ ad)) (List.toArray ([.ref (ad 99), .ref (ad 29), .int x2] : List Value)) s 0 0 (mA cI cZ ad)) (F0 m 67 ls [.int (s1), .int (s0)]) := by
            intro F G x3 x4 x6 s0 s1 H locs hP hS ls hl h
            refine lv_iadd hx hb dX5_finds_67 ?_
            refine q_nm h (fun v6 h => ?_)
            refine lv_istore (lv' := [(5, .int (v6)), (0, .ref (ad 99)), (1, .ref (ad 29)), (2, .int (x2)), (3, .int (x3)), (4, .int (x4)), (6, .int (x6))]) hx hb dX5_finds_68 hl (by decide) rfl (fun ls hl => ?_)
            refine q_iinc (j := 6) (d := (1 : Int32)) (lv2 := fun v7 => [(6, .int (v7)), (5, .int (v6)), (0, .ref (ad 99)), (1, .ref (ad 29)), (2, .int (x2)), (3, .int (x3)), (4, .int (x4))]) hx hb dX5_finds_70 hl rfl (by decide) (by decide) (fun _ => rfl) h (fun v7 ls hl h => ?_)
            refine lv_goto (tgt := 35) hx hb dX5_finds_73 (by decide) ?_
            exact ih35 F G x3 x4 v6 v7 _ _ hP hS _ (lv_sub hl [2, 3, 4, 5, 6, 1, 0] rfl) h
          intro F G x3 x4 x5 x6 H locs hP hS ls hl h
          replace h : f_X5_finds_29_L35_b (f_X5_finds_29_L10 x2 n10) (f_X5_finds_29_L35 (f_X5_finds_29_L10 x2 n10) x2 n35) x2 F G x3 x4 x5 x6 = some (rv, Fz, Gz) := h
          refine lv_iload_n hx hb dX5_finds_35 rfl (lv_at hl 2 rfl) ?_
          refine q_if_eq (tgt := 76) hx hb dX5_finds_36 (by decide) h (fun h => ?_) (fun h => ?_)
          · exact j76 F G x3 x4 x5 _ _ hP hS _ (lv_sub hl [0, 1, 2, 3, 4, 5] rfl) h
          · refine lv_iload hx hb dX5_finds_39 (lv_at hl 6 rfl) ?_
            refine lv_aload_n hx hb dX5_finds_41 rfl (lv_at hl 0 rfl) ?_
            refine va_get hx hb hts hi_X5_finds_X5 hown hK hP 0 (m_o99 cI cZ ad F G) rfl 7 (by decide) (hts _ (List.mem_of_getElem? (i := 2) rfl)) (fun _ h9 => h9) rfl dX5_finds_42 ?_
            refine q_icmp_ge (tgt := 76) hx hb dX5_finds_45 (by decide) h (fun h => ?_) (fun h => ?_)
            · exact j76 F G x3 x4 x5 _ _ hP hS _ (lv_sub hl [0, 1, 2, 3, 4, 5] rfl) h
            · refine lv_iload hx hb dX5_finds_48 (lv_at hl 5 rfl) ?_
              refine lv_aload_n hx hb dX5_finds_50 rfl (lv_at hl 0 rfl) ?_
              refine va_get hx hb hts hi_X5_finds_X5 hown hK hP 0 (m_o99 cI cZ ad F G) rfl 29 (by decide) (hts _ (List.mem_of_getElem? (i := 4) rfl)) (fun _ h9 => h9) rfl dX5_finds_51 ?_
              refine lv_iload hx hb dX5_finds_54 (lv_at hl 6 rfl) ?_
              refine q_ld hx hb hK hP 15 0 (m_a29 cI cZ ad F G) rfl dX5_finds_56 h (fun v8 h => ?_)
              refine lv_iload hx hb dX5_finds_57 (lv_at hl 4 rfl) ?_
              refine q_icmp_ne (tgt := 66) hx hb dX5_finds_59 (by decide) h (fun h => ?_) (fun h => ?_)
              · refine lv_iconst (v := 0) hx hb dX5_finds_66 (by decide) ?_
                exact j67 F G x3 x4 x6 x5 (0 : Int32) _ _ hP hS _ (lv_sub hl [0, 1, 2, 3, 4, 6] rfl) h
              · refine lv_iconst (v := 1) hx hb dX5_finds_62 (by decide) ?_
                refine lv_goto (tgt := 67) hx hb dX5_finds_63 (by decide) ?_
                exact j67 F G x3 x4 x6 x5 (1 : Int32) _ _ hP hS _ (lv_sub hl [0, 1, 2, 3, 4, 6] rfl) h
      intro F G x3 x4 H locs hP hS ls hl h
      replace h : f_X5_finds_29_L10_b (f_X5_finds_29_L10 x2 n10) x2 F G x3 x4 = some (rv, Fz, Gz) := h
      refine lv_iload hx hb dX5_finds_10 (lv_at hl 4 rfl) ?_
      refine q_if_lt (tgt := 110) hx hb dX5_finds_12 (by decide) h (fun h => ?_) (fun h => ?_)
      · exact j110 F G x3 _ _ hP hS _ (lv_sub hl [0, 3] rfl) h
      · refine lv_iload_n hx hb dX5_finds_15 rfl (lv_at hl 3 rfl) ?_
        refine lv_aload_n hx hb dX5_finds_16 rfl (lv_at hl 0 rfl) ?_
        refine va_get hx hb hts hi_X5_finds_X5 hown hK hP 0 (m_o99 cI cZ ad F G) rfl 7 (by decide) (hts _ (List.mem_of_getElem? (i := 2) rfl)) (fun _ h9 => h9) rfl dX5_finds_17 ?_
        refine q_icmp_ge (tgt := 110) hx hb dX5_finds_20 (by decide) h (fun h => ?_) (fun h => ?_)
        · exact j110 F G x3 _ _ hP hS _ (lv_sub hl [0, 3] rfl) h
        · refine lv_aload_n hx hb dX5_finds_23 rfl (lv_at hl 0 rfl) ?_
          refine va_get hx hb hts hi_X5_finds_X5 hown hK hP 0 (m_o99 cI cZ ad F G) rfl 11 (by decide) (hts _ (List.mem_of_getElem? (i := 3) rfl)) (fun _ h9 => h9) rfl dX5_finds_24 ?_
          refine lv_iload hx hb dX5_finds_27 (lv_at hl 4 rfl) ?_
          refine q_ld hx hb hK hP 7 0 (m_a11 cI cZ ad F G) rfl dX5_finds_29 h (fun v9 h => ?_)
          refine lv_istore (lv' := [(5, .int (v9)), (0, .ref (ad 99)), (1, .ref (ad 29)), (2, .int (x2)), (3, .int (x3)), (4, .int (x4))]) hx hb dX5_finds_30 hl (by decide) rfl (fun ls hl => ?_)
          refine lv_iconst (v := 0) hx hb dX5_finds_32 (by decide) ?_
          refine q_nm h (fun v10 h => ?_)
          refine lv_istore (lv' := [(6, .int (v10)), (5, .int (v9)), (0, .ref (ad 99)), (1, .ref (ad 29)), (2, .int (x2)), (3, .int (x3)), (4, .int (x4))]) hx hb dX5_finds_33 hl (by decide) rfl (fun ls hl => ?_)
          exact j35 1000 F G x3 x4 v9 v10 _ _ hP hS _ (lv_sub hl [2, 3, 4, 5, 6, 1, 0] rfl) h
  refine lv_iconst (v := 0) hx hb dX5_finds_0 (by decide) ?_
  refine q_nm h (fun v11 h => ?_)
  refine lv_istore_n (lv' := [(3, .int (v11)), (0, .ref (ad 99)), (1, .ref (ad 29)), (2, .int (x2))]) hx hb dX5_finds_1 rfl hl (by decide) rfl (fun ls hl => ?_)
  refine lv_aload_n hx hb dX5_finds_2 rfl (lv_at hl 1 rfl) ?_
  refine va_get hx hb hts hi_X5_finds_X5 hown hK hP 0 (m_o99 cI cZ ad F G) rfl 8 (by decide) (hts _ (List.mem_of_getElem? (i := 1) rfl)) (fun _ h9 => h9) rfl dX5_finds_3 ?_
  refine lv_iconst (v := 1) hx hb dX5_finds_6 (by decide) ?_
  refine lv_isub hx hb dX5_finds_7 ?_
  refine q_nm h (fun v12 h => ?_)
  refine lv_istore (lv' := [(4, .int (v12)), (3, .int (v11)), (0, .ref (ad 99)), (1, .ref (ad 29)), (2, .int (x2))]) hx hb dX5_finds_8 hl (by decide) rfl (fun ls hl => ?_)
  exact j10 1000 F G v11 v12 _ _ hP hS _ (lv_sub hl [2, 3, 4, 1, 0] rfl) h
set_option maxHeartbeats 4000000 in
set_option maxRecDepth 100000 in
theorem mt_X5_finds_30 (l : Launch) (D : va_G) (cI cZ : ClassId) (ad : Nat → Nat) (F : Nat → Int32) (G : Nat → Nat → Int32) (x2 : Int32) (rv : Int32) (Fz : Nat → Int32) (Gz : Nat → Nat → Int32) (hDD : va_D (fun _ => True) (mW cI cZ ad (fun _ => 0) (fun _ _ => 0))) (h : f_X5_finds_30 F G x2 = some (rv, Fz, Gz)) : Met l yX5_finds wsX5_finds ({ frames := 0, cells := 0, slots := 0, locals := 0 } : Room) (va_Pc [.ref (ad 99), .ref (ad 30), .int x2] (mR D cI cZ ad F G)) (va_Qi (fun z (_ : Unit) => z = rv) (fun _ t => va_P D vwCl (mW cI cZ ad Fz Gz) t.heap) (mA cI cZ ad)) 0 0 (mA cI cZ ad) := by
  refine Met.ofW (cc := cX5_finds) (maxL := 7) (ret := (some .boolean)) (by decide) rfl ?_
  intro p e s m args below meth c s₁ B hml hv
  obtain ⟨rfl, hP, hK, hN⟩ := hv
  have hx := B.exec
  have hb := B.bytes
  have hr := B.returns
  have hts := atoms_spec (ws := wsX5_finds) B.pre
  have hown : s.vm.findClass RX5 = some m.cls := findClass_of_methodNamed B.named
  have hlocks := B.notSynchronized
  have hS : va_S (mA cI cZ ad) s.heap s.heap [] := va_S.rf
  have hl := lv_entry ([.ref (ad 99), .ref (ad 30), .int x2]) (n := 7) (Nat.le_of_ble_eq_true rfl)
  rw [lg_entry_eq]
  generalize (lg_sl ([.ref (ad 99), .ref (ad 30), .int x2]) ++ List.replicate (7 - (lg_sl ([.ref (ad 99), .ref (ad 30), .int x2])).length) Slot.unset).toArray = ls at hl ⊢
  have hl : lv_has ls 7 [(0, .ref (ad 99)), (1, .ref (ad 30)), (2, .int (x2))] := hl
  have j110 : ∀ (F : Nat → Int32) (G : Nat → Nat → Int32) (x3 : Int32) (H : Heap) (locs : List Loc) , va_P D vwCl (mW cI cZ ad F G) H → va_S (mA cI cZ ad) s.heap H locs → ∀ ls : Array Slot, lv_has ls 7 [(0, .ref (ad 99)), (3, .int (x3))] → f_X5_finds_30_B110 x2 F G x3 = some (rv, Fz, Gz) → W p l e (headSpec wsX5_finds ({ frames := 0, cells := 0, slots := 0, locals := 0 } : Room)).room s m (List.toArray ([.ref (ad 99), .ref (ad 30), .int x2] : List Value)) below meth c H locs 0 0 (MQ below (va_Qi (fun z (_ : Unit) => z = rv) (fun _ t => va_P D vwCl (mW cI cZ ad Fz Gz) t.heap) (mA cI cZ ad)) (List.toArray ([.ref (ad 99), .ref (ad 30), .int x2] : List Value)) s 0 0 (mA cI cZ ad)) (F0 m 110 ls []) := by
    intro F G x3 H locs hP hS ls hl h
    refine lv_iload_n hx hb dX5_finds_110 rfl (lv_at hl 1 rfl) ?_
    refine lv_aload_n hx hb dX5_finds_111 rfl (lv_at hl 0 rfl) ?_
    refine va_get hx hb hts hi_X5_finds_X5 hown hK hP 0 (m_o99 cI cZ ad F G) rfl 7 (by decide) (hts _ (List.mem_of_getElem? (i := 2) rfl)) (fun _ h9 => h9) rfl dX5_finds_112 ?_
    refine q_icmp_ne (tgt := 122) hx hb dX5_finds_115 (by decide) h (fun h => ?_) (fun h => ?_)
    · refine lv_iconst (v := 0) hx hb dX5_finds_122 (by decide) ?_
      have e1 := congrArg Prod.fst (Option.some.inj h)
      have e2 := congrArg (fun z => z.2.1) (Option.some.inj h)
      have e3 := congrArg (fun z => z.2.2) (Option.some.inj h)
      dsimp only at e1 e2 e3
      exact W.zret hx hb hr rfl (fun t ht hW => ⟨⟨_, (), rfl, e1, by show va_P D vwCl _ t.heap; rw [ht, ← e2, ← e3]; exact hP⟩, hS.F ht⟩) hS.2.2 dX5_finds_123
    · refine lv_iconst (v := 1) hx hb dX5_finds_118 (by decide) ?_
      refine lv_goto (tgt := 123) hx hb dX5_finds_119 (by decide) ?_
      have e1 := congrArg Prod.fst (Option.some.inj h)
      have e2 := congrArg (fun z => z.2.1) (Option.some.inj h)
      have e3 := congrArg (fun z => z.2.2) (Option.some.inj h)
      dsimp only at e1 e2 e3
      exact W.zret hx hb hr rfl (fun t ht hW => ⟨⟨_, (), rfl, e1, by show va_P D vwCl _ t.heap; rw [ht, ← e2, ← e3]; exact hP⟩, hS.F ht⟩) hS.2.2 dX5_finds_123
  have j10 : ∀ n10 : Nat, ∀ (F : Nat → Int32) (G : Nat → Nat → Int32) (x3 : Int32) (x4 : Int32) (H : Heap) (locs : List Loc) , va_P D vwCl (mW cI cZ ad F G) H → va_S (mA cI cZ ad) s.heap H locs → ∀ ls : Array Slot, lv_has ls 7 [(0, .ref (ad 99)), (1, .ref (ad 30)), (2, .int (x2)), (3, .int (x3)), (4, .int (x4))] → f_X5_finds_30_L10 x2 n10 F G x3 x4 = some (rv, Fz, Gz) → W p l e (headSpec wsX5_finds ({ frames := 0, cells := 0, slots := 0, locals := 0 } : Room)).room s m (List.toArray ([.ref (ad 99), .ref (ad 30), .int x2] : List Value)) below meth c H locs 0 0 (MQ below (va_Qi (fun z (_ : Unit) => z = rv) (fun _ t => va_P D vwCl (mW cI cZ ad Fz Gz) t.heap) (mA cI cZ ad)) (List.toArray ([.ref (ad 99), .ref (ad 30), .int x2] : List Value)) s 0 0 (mA cI cZ ad)) (F0 m 10 ls []) := by
    intro n10
    induction n10 with
    | zero =>
      intro F G x3 x4 H locs hP hS ls hl h
      cases h
    | succ n10 ih10 =>
      have j104 : ∀ (F : Nat → Int32) (G : Nat → Nat → Int32) (x3 : Int32) (x4 : Int32) (H : Heap) (locs : List Loc) , va_P D vwCl (mW cI cZ ad F G) H → va_S (mA cI cZ ad) s.heap H locs → ∀ ls : Array Slot, lv_has ls 7 [(0, .ref (ad 99)), (1, .ref (ad 30)), (2, .int (x2)), (3, .int (x3)), (4, .int (x4))] → f_X5_finds_30_B104 (f_X5_finds_30_L10 x2 n10) x2 F G x3 x4 = some (rv, Fz, Gz) → W p l e (headSpec wsX5_finds ({ frames := 0, cells := 0, slots := 0, locals := 0 } : Room)).room s m (List.toArray ([.ref (ad 99), .ref (ad 30), .int x2] : List Value)) below meth c H locs 0 0 (MQ below (va_Qi (fun z (_ : Unit) => z = rv) (fun _ t => va_P D vwCl (mW cI cZ ad Fz Gz) t.heap) (mA cI cZ ad)) (List.toArray ([.ref (ad 99), .ref (ad 30), .int x2] : List Value)) s 0 0 (mA cI cZ ad)) (F0 m 104 ls []) := by
        intro F G x3 x4 H locs hP hS ls hl h
        refine q_iinc (j := 4) (d := (-1 : Int32)) (lv2 := fun v1 => [(4, .int (v1)), (0, .ref (ad 99)), (1, .ref (ad 30)), (2, .int (x2)), (3, .int (x3))]) hx hb dX5_finds_104 hl rfl (by decide) (by decide) (fun _ => rfl) h (fun v1 ls hl h => ?_)
        refine lv_goto (tgt := 10) hx hb dX5_finds_107 (by decide) ?_
        exact ih10 F G x3 v1 _ _ hP hS _ (lv_sub hl [1, 2, 3, 4, 0] rfl) h
      have j76 : ∀ (F : Nat → Int32) (G : Nat → Nat → Int32) (x3 : Int32) (x4 : Int32) (x5 : Int32) (H : Heap) (locs : List Loc) , va_P D vwCl (mW cI cZ ad F G) H → va_S (mA cI cZ ad) s.heap H locs → ∀ ls : Array Slot, lv_has ls 7 [(0, .ref (ad 99)), (1, .ref (ad 30)), (2, .int (x2)), (3, .int (x3)), (4, .int (x4)), (5, .int (x5))] → f_X5_finds_30_B76 (f_X5_finds_30_L10 x2 n10) x2 F G x3 x4 x5 = some (rv, Fz, Gz) → W p l e (headSpec wsX5_finds ({ frames := 0, cells := 0, slots := 0, locals := 0 } : Room)).room s m (List.toArray ([.ref (ad 99), .ref (ad 30), .int x2] : List Value)) below meth c H locs 0 0 (MQ below (va_Qi (fun z (_ : Unit) => z = rv) (fun _ t => va_P D vwCl (mW cI cZ ad Fz Gz) t.heap) (mA cI cZ ad)) (List.toArray ([.ref (ad 99), .ref (ad 30), .int x2] : List Value)) s 0 0 (mA cI cZ ad)) (F0 m 76 ls []) := by
        intro F G x3 x4 x5 H locs hP hS ls hl h
        refine lv_iload hx hb dX5_finds_76 (lv_at hl 5 rfl) ?_
        refine lv_aload_n hx hb dX5_finds_78 rfl (lv_at hl 0 rfl) ?_
        refine va_get hx hb hts hi_X5_finds_X5 hown hK hP 0 (m_o99 cI cZ ad F G) rfl 3 (by decide) (hts _ (List.mem_of_getElem? (i := 5) rfl)) (fun _ h9 => h9) rfl dX5_finds_79 ?_
        refine lv_aload_n hx hb dX5_finds_82 rfl (lv_at hl 0 rfl) ?_
        refine va_get hx hb hts hi_X5_finds_X5 hown hK hP 0 (m_o99 cI cZ ad F G) rfl 14 (by decide) (hts _ (List.mem_of_getElem? (i := 6) rfl)) (fun _ h9 => h9) rfl dX5_finds_83 ?_
        refine lv_iload hx hb dX5_finds_86 (lv_at hl 4 rfl) ?_
        refine q_ld hx hb hK hP 10 0 (m_a14 cI cZ ad F G) rfl dX5_finds_88 h (fun v2 h => ?_)
        refine q_ld hx hb hK hP 2 0 (m_a3 cI cZ ad F G) rfl dX5_finds_89 h (fun v3 h => ?_)
        refine q_icmp_lt (tgt := 96) hx hb dX5_finds_90 (by decide) h (fun h => ?_) (fun h => ?_)
        · refine lv_aload_n hx hb dX5_finds_96 rfl (lv_at hl 1 rfl) ?_
          refine lv_iload_n hx hb dX5_finds_97 rfl (lv_at hl 3 rfl) ?_
          refine lv_iload hx hb dX5_finds_98 (lv_at hl 4 rfl) ?_
          refine q_st hx hb hK hP (mW_D hDD _ _) hS 16 0 30 (fun z => mW cI cZ ad F z) (m_a30 cI cZ ad F G) rfl (m_g30 cI cZ ad F G _) dX5_finds_100 h (fun G4 H locs h hP hS => ?_)
          refine q_iinc (j := 3) (d := (1 : Int32)) (lv2 := fun v5 => [(3, .int (v5)), (0, .ref (ad 99)), (1, .ref (ad 30)), (2, .int (x2)), (4, .int (x4)), (5, .int (x5))]) hx hb dX5_finds_101 hl rfl (by decide) (by decide) (fun _ => rfl) h (fun v5 ls hl h => ?_)
          exact j104 F G4 v5 x4 _ _ hP hS _ (lv_sub hl [1, 2, 3, 0, 4] rfl) h
        · refine lv_goto (tgt := 104) hx hb dX5_finds_93 (by decide) ?_
          exact j104 F G x3 x4 _ _ hP hS _ (lv_sub hl [0, 1, 2, 3, 4] rfl) h
      have j35 : ∀ n35 : Nat, ∀ (F : Nat → Int32) (G : Nat → Nat → Int32) (x3 : Int32) (x4 : Int32) (x5 : Int32) (x6 : Int32) (H : Heap) (locs : List Loc) , va_P D vwCl (mW cI cZ ad F G) H → va_S (mA cI cZ ad) s.heap H locs → ∀ ls : Array Slot, lv_has ls 7 [(0, .ref (ad 99)), (1, .ref (ad 30)), (2, .int (x2)), (3, .int (x3)), (4, .int (x4)), (5, .int (x5)), (6, .int (x6))] → f_X5_finds_30_L35 (f_X5_finds_30_L10 x2 n10) x2 n35 F G x3 x4 x5 x6 = some (rv, Fz, Gz) → W p l e (headSpec wsX5_finds ({ frames := 0, cells := 0, slots := 0, locals := 0 } : Room)).room s m (List.toArray ([.ref (ad 99), .ref (ad 30), .int x2] : List Value)) below meth c H locs 0 0 (MQ below (va_Qi (fun z (_ : Unit) => z = rv) (fun _ t => va_P D vwCl (mW cI cZ ad Fz Gz) t.heap) (mA cI cZ ad)) (List.toArray ([.ref (ad 99), .ref (ad 30), .int x2] : List Value)) s 0 0 (mA cI cZ ad)) (F0 m 35 ls []) := by
        intro n35
        induction n35 with
        | zero =>
          intro F G x3 x4 x5 x6 H locs hP hS ls hl h
          cases h
        | succ n35 ih35 =>
          have j67 : ∀ (F : Nat → Int32) (G : Nat → Nat → Int32) (x3 : Int32) (x4 : Int32) (x6 : Int32) (s0 : Int32) (s1 : Int32) (H : Heap) (locs : List Loc) , va_P D vwCl (mW cI cZ ad F G) H → va_S (mA cI cZ ad) s.heap H locs → ∀ ls : Array Slot, lv_has ls 7 [(0, .ref (ad 99)), (1, .ref (ad 30)), (2, .int (x2)), (3, .int (x3)), (4, .int (x4)), (6, .int (x6))] → f_X5_finds_30_B67 (f_X5_finds_30_L10 x2 n10) (f_X5_finds_30_L35 (f_X5_finds_30_L10 x2 n10) x2 n35) x2 F G x3 x4 x6 s0 s1 = some (rv, Fz, Gz) → W p l e (headSpec wsX5_finds ({ frames := 0, cells := 0, slots := 0, locals := 0 } : Room)).room s m (List.toArray ([.ref (ad 99), .ref (ad 30), .int x2] : List Value)) below meth c H locs 0 0 (MQ below (va_Qi (fun z (_ : Unit) => z = rv) (fun _ t => va_P D vwCl (mW cI cZ ad Fz Gz) t.heap) (mA cI cZ ad)) (List.toArray ([.ref (ad 99), .ref (ad 30), .int x2] : List Value)) s 0 0 (mA cI cZ ad)) (F0 m 67 ls [.int (s1), .int (s0)]) := by
            intro F G x3 x4 x6 s0 s1 H locs hP hS ls hl h
            refine lv_iadd hx hb dX5_finds_67 ?_
            refine q_nm h (fun v6 h => ?_)
            refine lv_istore (lv' := [(5, .int (v6)), (0, .ref (ad 99)), (1, .ref (ad 30)), (2, .int (x2)), (3, .int (x3)), (4, .int (x4)), (6, .int (x6))]) hx hb dX5_finds_68 hl (by decide) rfl (fun ls hl => ?_)
            refine q_iinc (j := 6) (d := (1 : Int32)) (lv2 := fun v7 => [(6, .int (v7)), (5, .int (v6)), (0, .ref (ad 99)), (1, .ref (ad 30)), (2, .int (x2)), (3, .int (x3)), (4, .int (x4))]) hx hb dX5_finds_70 hl rfl (by decide) (by decide) (fun _ => rfl) h (fun v7 ls hl h => ?_)
            refine lv_goto (tgt := 35) hx hb dX5_finds_73 (by decide) ?_
            exact ih35 F G x3 x4 v6 v7 _ _ hP hS _ (lv_sub hl [2, 3, 4, 5, 6, 1, 0] rfl) h
          intro F G x3 x4 x5 x6 H locs hP hS ls hl h
          replace h : f_X5_finds_30_L35_b (f_X5_finds_30_L10 x2 n10) (f_X5_finds_30_L35 (f_X5_finds_30_L10 x2 n10) x2 n35) x2 F G x3 x4 x5 x6 = some (rv, Fz, Gz) := h
          refine lv_iload_n hx hb dX5_finds_35 rfl (lv_at hl 2 rfl) ?_
          refine q_if_eq (tgt := 76) hx hb dX5_finds_36 (by decide) h (fun h => ?_) (fun h => ?_)
          · exact j76 F G x3 x4 x5 _ _ hP hS _ (lv_sub hl [0, 1, 2, 3, 4, 5] rfl) h
          · refine lv_iload hx hb dX5_finds_39 (lv_at hl 6 rfl) ?_
            refine lv_aload_n hx hb dX5_finds_41 rfl (lv_at hl 0 rfl) ?_
            refine va_get hx hb hts hi_X5_finds_X5 hown hK hP 0 (m_o99 cI cZ ad F G) rfl 7 (by decide) (hts _ (List.mem_of_getElem? (i := 2) rfl)) (fun _ h9 => h9) rfl dX5_finds_42 ?_
            refine q_icmp_ge (tgt := 76) hx hb dX5_finds_45 (by decide) h (fun h => ?_) (fun h => ?_)
            · exact j76 F G x3 x4 x5 _ _ hP hS _ (lv_sub hl [0, 1, 2, 3, 4, 5] rfl) h
            · refine lv_iload hx hb dX5_finds_48 (lv_at hl 5 rfl) ?_
              refine lv_aload_n hx hb dX5_finds_50 rfl (lv_at hl 0 rfl) ?_
              refine va_get hx hb hts hi_X5_finds_X5 hown hK hP 0 (m_o99 cI cZ ad F G) rfl 29 (by decide) (hts _ (List.mem_of_getElem? (i := 4) rfl)) (fun _ h9 => h9) rfl dX5_finds_51 ?_
              refine lv_iload hx hb dX5_finds_54 (lv_at hl 6 rfl) ?_
              refine q_ld hx hb hK hP 15 0 (m_a29 cI cZ ad F G) rfl dX5_finds_56 h (fun v8 h => ?_)
              refine lv_iload hx hb dX5_finds_57 (lv_at hl 4 rfl) ?_
              refine q_icmp_ne (tgt := 66) hx hb dX5_finds_59 (by decide) h (fun h => ?_) (fun h => ?_)
              · refine lv_iconst (v := 0) hx hb dX5_finds_66 (by decide) ?_
                exact j67 F G x3 x4 x6 x5 (0 : Int32) _ _ hP hS _ (lv_sub hl [0, 1, 2, 3, 4, 6] rfl) h
              · refine lv_iconst (v := 1) hx hb dX5_finds_62 (by decide) ?_
                refine lv_goto (tgt := 67) hx hb dX5_finds_63 (by decide) ?_
                exact j67 F G x3 x4 x6 x5 (1 : Int32) _ _ hP hS _ (lv_sub hl [0, 1, 2, 3, 4, 6] rfl) h
      intro F G x3 x4 H locs hP hS ls hl h
      replace h : f_X5_finds_30_L10_b (f_X5_finds_30_L10 x2 n10) x2 F G x3 x4 = some (rv, Fz, Gz) := h
      refine lv_iload hx hb dX5_finds_10 (lv_at hl 4 rfl) ?_
      refine q_if_lt (tgt := 110) hx hb dX5_finds_12 (by decide) h (fun h => ?_) (fun h => ?_)
      · exact j110 F G x3 _ _ hP hS _ (lv_sub hl [0, 3] rfl) h
      · refine lv_iload_n hx hb dX5_finds_15 rfl (lv_at hl 3 rfl) ?_
        refine lv_aload_n hx hb dX5_finds_16 rfl (lv_at hl 0 rfl) ?_
        refine va_get hx hb hts hi_X5_finds_X5 hown hK hP 0 (m_o99 cI cZ ad F G) rfl 7 (by decide) (hts _ (List.mem_of_getElem? (i := 2) rfl)) (fun _ h9 => h9) rfl dX5_finds_17 ?_
        refine q_icmp_ge (tgt := 110) hx hb dX5_finds_20 (by decide) h (fun h => ?_) (fun h => ?_)
        · exact j110 F G x3 _ _ hP hS _ (lv_sub hl [0, 3] rfl) h
        · refine lv_aload_n hx hb dX5_finds_23 rfl (lv_at hl 0 rfl) ?_
          refine va_get hx hb hts hi_X5_finds_X5 hown hK hP 0 (m_o99 cI cZ ad F G) rfl 11 (by decide) (hts _ (List.mem_of_getElem? (i := 3) rfl)) (fun _ h9 => h9) rfl dX5_finds_24 ?_
          refine lv_iload hx hb dX5_finds_27 (lv_at hl 4 rfl) ?_
          refine q_ld hx hb hK hP 7 0 (m_a11 cI cZ ad F G) rfl dX5_finds_29 h (fun v9 h => ?_)
          refine lv_istore (lv' := [(5, .int (v9)), (0, .ref (ad 99)), (1, .ref (ad 30)), (2, .int (x2)), (3, .int (x3)), (4, .int (x4))]) hx hb dX5_finds_30 hl (by decide) rfl (fun ls hl => ?_)
          refine lv_iconst (v := 0) hx hb dX5_finds_32 (by decide) ?_
          refine q_nm h (fun v10 h => ?_)
          refine lv_istore (lv' := [(6, .int (v10)), (5, .int (v9)), (0, .ref (ad 99)), (1, .ref (ad 30)), (2, .int (x2)), (3, .int (x3)), (4, .int (x4))]) hx hb dX5_finds_33 hl (by decide) rfl (fun ls hl => ?_)
          exact j35 1000 F G x3 x4 v9 v10 _ _ hP hS _ (lv_sub hl [2, 3, 4, 5, 6, 1, 0] rfl) h
  refine lv_iconst (v := 0) hx hb dX5_finds_0 (by decide) ?_
  refine q_nm h (fun v11 h => ?_)
  refine lv_istore_n (lv' := [(3, .int (v11)), (0, .ref (ad 99)), (1, .ref (ad 30)), (2, .int (x2))]) hx hb dX5_finds_1 rfl hl (by decide) rfl (fun ls hl => ?_)
  refine lv_aload_n hx hb dX5_finds_2 rfl (lv_at hl 1 rfl) ?_
  refine va_get hx hb hts hi_X5_finds_X5 hown hK hP 0 (m_o99 cI cZ ad F G) rfl 8 (by decide) (hts _ (List.mem_of_getElem? (i := 1) rfl)) (fun _ h9 => h9) rfl dX5_finds_3 ?_
  refine lv_iconst (v := 1) hx hb dX5_finds_6 (by decide) ?_
  refine lv_isub hx hb dX5_finds_7 ?_
  refine q_nm h (fun v12 h => ?_)
  refine lv_istore (lv' := [(4, .int (v12)), (3, .int (v11)), (0, .ref (ad 99)), (1, .ref (ad 30)), (2, .int (x2))]) hx hb dX5_finds_8 hl (by decide) rfl (fun ls hl => ?_)
  exact j10 1000 F G v11 v12 _ _ hP hS _ (lv_sub hl [2, 3, 4, 1, 0] rfl) h
theorem hi_X5_beads_X5 : ∀ w ∈ u_ws RX5 TX5 48, w ∈ wsX5_beads := fun w h => (List.mem_cons_of_mem _ (List.mem_append_right _ h))
set_option maxHeartbeats 4000000 in
set_option maxRecDepth 100000 in
theorem mt_X5_beads (l : Launch) (D : va_G) (cI cZ : ClassId) (ad : Nat → Nat) (F : Nat → Int32) (G : Nat → Nat → Int32) (x1 : Int32) (x2 : Int32) (x3 : Int32) (x4 : Int64) (rv : Int32) (Fz : Nat → Int32) (Gz : Nat → Nat → Int32) (hDD : va_D (fun _ => True) (mW cI cZ ad (fun _ => 0) (fun _ _ => 0))) (h : f_X5_beads F G x1 x2 x3 x4 = some (rv, Fz, Gz)) : Met l yX5_beads wsX5_beads ({ frames := 1, cells := 0, slots := 0, locals := 22 } : Room) (va_Pc [.ref (ad 99), .int x1, .int x2, .int x3, .long x4] (mR D cI cZ ad F G)) (va_Qi (fun z (_ : Unit) => z = rv) (fun _ t => va_P D vwCl (mW cI cZ ad Fz Gz) t.heap) (mA cI cZ ad)) 0 0 (mA cI cZ ad) := by
  refine Met.ofW (cc := cX5_beads) (maxL := 8) (ret := (some .boolean)) (by decide) rfl ?_
  intro p e s m args below meth c s₁ B hml hv
  obtain ⟨rfl, hP, hK, hN⟩ := hv
  have hx := B.exec
  have hb := B.bytes
  have hr := B.returns
  have hts := atoms_spec (ws := wsX5_beads) B.pre
  have hown : s.vm.findClass RX5 = some m.cls := findClass_of_methodNamed B.named
  have hlocks := B.notSynchronized
  have hS : va_S (mA cI cZ ad) s.heap s.heap [] := va_S.rf
  have hl := lv_entry ([.ref (ad 99), .int x1, .int x2, .int x3, .long x4]) (n := 8) (Nat.le_of_ble_eq_true rfl)
  rw [lg_entry_eq]
  generalize (lg_sl ([.ref (ad 99), .int x1, .int x2, .int x3, .long x4]) ++ List.replicate (8 - (lg_sl ([.ref (ad 99), .int x1, .int x2, .int x3, .long x4])).length) Slot.unset).toArray = ls at hl ⊢
  have hl : lv_has ls 8 [(0, .ref (ad 99)), (1, .int (x1)), (2, .int (x2)), (3, .int (x3)), (4, .long (x4))] := hl
  have j45 : ∀ n45 : Nat, ∀ (F : Nat → Int32) (G : Nat → Nat → Int32) (x6 : Int32) (H : Heap) (locs : List Loc) , va_P D vwCl (mW cI cZ ad F G) H → va_S (mA cI cZ ad) s.heap H locs → ∀ ls : Array Slot, lv_has ls 8 [(0, .ref (ad 99)), (1, .int (x1)), (2, .int (x2)), (3, .int (x3)), (4, .long (x4)), (6, .int (x6))] → f_X5_beads_L45 x1 x2 x3 x4 n45 F G x6 = some (rv, Fz, Gz) → W p l e (headSpec wsX5_beads ({ frames := 1, cells := 0, slots := 0, locals := 22 } : Room)).room s m (List.toArray ([.ref (ad 99), .int x1, .int x2, .int x3, .long x4] : List Value)) below meth c H locs 0 0 (MQ below (va_Qi (fun z (_ : Unit) => z = rv) (fun _ t => va_P D vwCl (mW cI cZ ad Fz Gz) t.heap) (mA cI cZ ad)) (List.toArray ([.ref (ad 99), .int x1, .int x2, .int x3, .long x4] : List Value)) s 0 0 (mA cI cZ ad)) (F0 m 45 ls []) := by
    intro n45
    induction n45 with
    | zero =>
      intro F G x6 H locs hP hS ls hl h
      cases h
    | succ n45 ih45 =>
      have j98 : ∀ (F : Nat → Int32) (G : Nat → Nat → Int32) (x6 : Int32) (H : Heap) (locs : List Loc) , va_P D vwCl (mW cI cZ ad F G) H → va_S (mA cI cZ ad) s.heap H locs → ∀ ls : Array Slot, lv_has ls 8 [(0, .ref (ad 99)), (1, .int (x1)), (2, .int (x2)), (3, .int (x3)), (4, .long (x4)), (6, .int (x6))] → f_X5_beads_B98 (f_X5_beads_L45 x1 x2 x3 x4 n45) x1 x2 x3 x4 F G x6 = some (rv, Fz, Gz) → W p l e (headSpec wsX5_beads ({ frames := 1, cells := 0, slots := 0, locals := 22 } : Room)).room s m (List.toArray ([.ref (ad 99), .int x1, .int x2, .int x3, .long x4] : List Value)) below meth c H locs 0 0 (MQ below (va_Qi (fun z (_ : Unit) => z = rv) (fun _ t => va_P D vwCl (mW cI cZ ad Fz Gz) t.heap) (mA cI cZ ad)) (List.toArray ([.ref (ad 99), .int x1, .int x2, .int x3, .long x4] : List Value)) s 0 0 (mA cI cZ ad)) (F0 m 98 ls []) := by
        intro F G x6 H locs hP hS ls hl h
        refine q_iinc (j := 5) (d := (1 : Int32)) (lv2 := fun v1 => [(6, .int (v1)), (0, .ref (ad 99)), (1, .int (x1)), (2, .int (x2)), (3, .int (x3)), (4, .long (x4))]) hx hb dX5_beads_98 hl rfl (by decide) (by decide) (fun _ => rfl) h (fun v1 ls hl h => ?_)
        refine lv_goto (tgt := 45) hx hb dX5_beads_101 (by decide) ?_
        exact ih45 F G v1 _ _ hP hS _ (lv_sub hl [1, 2, 3, 4, 5, 0] rfl) h
      have j97 : ∀ (F : Nat → Int32) (G : Nat → Nat → Int32) (x6 : Int32) (s1 : Int32) (s2 : Int32) (H : Heap) (locs : List Loc) , va_P D vwCl (mW cI cZ ad F G) H → va_S (mA cI cZ ad) s.heap H locs → ∀ ls : Array Slot, lv_has ls 8 [(0, .ref (ad 99)), (1, .int (x1)), (2, .int (x2)), (3, .int (x3)), (4, .long (x4)), (6, .int (x6))] → f_X5_beads_B97 (f_X5_beads_L45 x1 x2 x3 x4 n45) x1 x2 x3 x4 F G x6 s1 s2 = some (rv, Fz, Gz) → W p l e (headSpec wsX5_beads ({ frames := 1, cells := 0, slots := 0, locals := 22 } : Room)).room s m (List.toArray ([.ref (ad 99), .int x1, .int x2, .int x3, .long x4] : List Value)) below meth c H locs 0 0 (MQ below (va_Qi (fun z (_ : Unit) => z = rv) (fun _ t => va_P D vwCl (mW cI cZ ad Fz Gz) t.heap) (mA cI cZ ad)) (List.toArray ([.ref (ad 99), .int x1, .int x2, .int x3, .long x4] : List Value)) s 0 0 (mA cI cZ ad)) (F0 m 97 ls [.int (s2), .int (s1), .ref (ad 0)]) := by
        intro F G x6 s1 s2 H locs hP hS ls hl h
        refine q_st hx hb hK hP (mW_D hDD _ _) hS 1 0 0 (fun z => mW cI cZ ad F z) (m_a0 cI cZ ad F G) rfl (m_g0 cI cZ ad F G _) dX5_beads_97 h (fun G2 H locs h hP hS => ?_)
        exact j98 F G2 x6 _ _ hP hS _ (lv_sub hl [0, 1, 2, 3, 4, 5] rfl) h
      intro F G x6 H locs hP hS ls hl h
      replace h : f_X5_beads_L45_b (f_X5_beads_L45 x1 x2 x3 x4 n45) x1 x2 x3 x4 F G x6 = some (rv, Fz, Gz) := h
      refine lv_iload hx hb dX5_beads_45 (lv_at hl 5 rfl) ?_
      refine lv_iload_n hx hb dX5_beads_47 rfl (lv_at hl 3 rfl) ?_
      refine q_icmp_ge (tgt := 104) hx hb dX5_beads_48 (by decide) h (fun h => ?_) (fun h => ?_)
      · refine lv_iconst (v := 1) hx hb dX5_beads_104 (by decide) ?_
        have e1 := congrArg Prod.fst (Option.some.inj h)
        have e2 := congrArg (fun z => z.2.1) (Option.some.inj h)
        have e3 := congrArg (fun z => z.2.2) (Option.some.inj h)
        dsimp only at e1 e2 e3
        exact W.zret hx hb hr rfl (fun t ht hW => ⟨⟨_, (), rfl, e1, by show va_P D vwCl _ t.heap; rw [ht, ← e2, ← e3]; exact hP⟩, hS.F ht⟩) hS.2.2 dX5_beads_105
      · refine lv_lload hx hb dX5_beads_51 (lv_at hl 4 rfl) ?_
        refine lv_iconst (v := 3) hx hb dX5_beads_53 (by decide) ?_
        refine lv_iload hx hb dX5_beads_54 (lv_at hl 5 rfl) ?_
        refine lv_imul hx hb dX5_beads_56 ?_
        refine lv_lshr hx hb dX5_beads_57 rfl ?_
        refine lv_l2i hx hb dX5_beads_58 rfl ?_
        refine lv_bipush (v := 7) hx hb dX5_beads_59 (by decide) ?_
        refine lv_iand hx hb dX5_beads_61 ?_
        refine q_nm h (fun v3 h => ?_)
        refine lv_istore (lv' := [(7, .int (v3)), (0, .ref (ad 99)), (1, .int (x1)), (2, .int (x2)), (3, .int (x3)), (4, .long (x4)), (6, .int (x6))]) hx hb dX5_beads_62 hl (by decide) rfl (fun ls hl => ?_)
        refine lv_iload hx hb dX5_beads_64 (lv_at hl 0 rfl) ?_
        refine lv_bipush (v := 7) hx hb dX5_beads_66 (by decide) ?_
        refine q_icmp_ge (tgt := 98) hx hb dX5_beads_68 (by decide) h (fun h => ?_) (fun h => ?_)
        · exact j98 F G x6 _ _ hP hS _ (lv_sub hl [1, 2, 3, 4, 5, 6] rfl) h
        · refine lv_aload_n hx hb dX5_beads_71 rfl (lv_at hl 1 rfl) ?_
          refine va_get hx hb hts hi_X5_beads_X5 hown hK hP 0 (m_o99 cI cZ ad F G) rfl 0 (by decide) (hts _ (List.mem_of_getElem? (i := 1) rfl)) (fun _ h9 => h9) rfl dX5_beads_72 ?_
          refine lv_bipush (v := 12) hx hb dX5_beads_75 (by decide) ?_
          refine lv_iload_n hx hb dX5_beads_77 rfl (lv_at hl 2 rfl) ?_
          refine lv_imul hx hb dX5_beads_78 ?_
          refine lv_iload_n hx hb dX5_beads_79 rfl (lv_at hl 3 rfl) ?_
          refine lv_iadd hx hb dX5_beads_80 ?_
          refine lv_iload hx hb dX5_beads_81 (lv_at hl 6 rfl) ?_
          refine lv_iadd hx hb dX5_beads_83 ?_
          refine lv_iload hx hb dX5_beads_84 (lv_at hl 0 rfl) ?_
          refine lv_bipush (v := 6) hx hb dX5_beads_86 (by decide) ?_
          refine q_icmp_ne (tgt := 95) hx hb dX5_beads_88 (by decide) h (fun h => ?_) (fun h => ?_)
          · refine lv_iload hx hb dX5_beads_95 (lv_at hl 0 rfl) ?_
            exact j97 F G x6 (((((12 : Int32) * x1) + x2) + x6)) v3 _ _ hP hS _ (lv_sub hl [1, 2, 3, 4, 5, 6] rfl) h
          · refine lv_iconst (v := -1) hx hb dX5_beads_91 (by decide) ?_
            refine lv_goto (tgt := 97) hx hb dX5_beads_92 (by decide) ?_
            exact j97 F G x6 (((((12 : Int32) * x1) + x2) + x6)) (-1 : Int32) _ _ hP hS _ (lv_sub hl [1, 2, 3, 4, 5, 6] rfl) h
  refine lv_iload_n hx hb dX5_beads_0 rfl (lv_at hl 1 rfl) ?_
  refine lv_iconst (v := 0) hx hb dX5_beads_1 (by decide) ?_
  refine lv_bipush (v := 11) hx hb dX5_beads_2 (by decide) ?_
  obtain ⟨v4, hc5, h⟩ := q_some h
  refine q_cs (W.runS (As := [.int (x1), .int ((0 : Int32)), .int ((11 : Int32))]) (rest := []) ⟨hx, hb, hml, hown, hts⟩ (mt_X5_in l x1 (0 : Int32) (11 : Int32) v4 hc5) (va_cwS 3 hts gX5_beads_X5_in rfl rfl rfl (by decide +kernel) ⟨Nat.le_of_ble_eq_true rfl, Nat.le_of_ble_eq_true rfl⟩) q_pr0 rfl rfl hl.1 rfl (lv_room (Nat.le_of_ble_eq_true rfl)) dX5_beads_4 ⟨Nat.le_of_ble_eq_true rfl, Nat.le_of_ble_eq_true rfl⟩) ?_
  refine q_if_eq (tgt := 40) hx hb dX5_beads_7 (by decide) h (fun h => ?_) (fun h => ?_)
  · refine lv_iconst (v := 0) hx hb dX5_beads_40 (by decide) ?_
    have e1 := congrArg Prod.fst (Option.some.inj h)
    have e2 := congrArg (fun z => z.2.1) (Option.some.inj h)
    have e3 := congrArg (fun z => z.2.2) (Option.some.inj h)
    dsimp only at e1 e2 e3
    exact W.zret hx hb hr rfl (fun t ht hW => ⟨⟨_, (), rfl, e1, by show va_P D vwCl _ t.heap; rw [ht, ← e2, ← e3]; exact hP⟩, hS.F ht⟩) hS.2.2 dX5_beads_41
  · refine lv_iload_n hx hb dX5_beads_10 rfl (lv_at hl 2 rfl) ?_
    refine lv_iconst (v := 0) hx hb dX5_beads_11 (by decide) ?_
    refine lv_bipush (v := 11) hx hb dX5_beads_12 (by decide) ?_
    obtain ⟨v6, hc7, h⟩ := q_some h
    refine q_cs (W.runS (As := [.int (x2), .int ((0 : Int32)), .int ((11 : Int32))]) (rest := []) ⟨hx, hb, hml, hown, hts⟩ (mt_X5_in l x2 (0 : Int32) (11 : Int32) v6 hc7) (va_cwS 3 hts gX5_beads_X5_in rfl rfl rfl (by decide +kernel) ⟨Nat.le_of_ble_eq_true rfl, Nat.le_of_ble_eq_true rfl⟩) q_pr0 rfl rfl hl.1 rfl (lv_room (Nat.le_of_ble_eq_true rfl)) dX5_beads_14 ⟨Nat.le_of_ble_eq_true rfl, Nat.le_of_ble_eq_true rfl⟩) ?_
    refine q_if_eq (tgt := 40) hx hb dX5_beads_17 (by decide) h (fun h => ?_) (fun h => ?_)
    · refine lv_iconst (v := 0) hx hb dX5_beads_40 (by decide) ?_
      have e1 := congrArg Prod.fst (Option.some.inj h)
      have e2 := congrArg (fun z => z.2.1) (Option.some.inj h)
      have e3 := congrArg (fun z => z.2.2) (Option.some.inj h)
      dsimp only at e1 e2 e3
      exact W.zret hx hb hr rfl (fun t ht hW => ⟨⟨_, (), rfl, e1, by show va_P D vwCl _ t.heap; rw [ht, ← e2, ← e3]; exact hP⟩, hS.F ht⟩) hS.2.2 dX5_beads_41
    · refine lv_iload_n hx hb dX5_beads_20 rfl (lv_at hl 3 rfl) ?_
      refine lv_iconst (v := 1) hx hb dX5_beads_21 (by decide) ?_
      refine lv_bipush (v := 12) hx hb dX5_beads_22 (by decide) ?_
      obtain ⟨v8, hc9, h⟩ := q_some h
      refine q_cs (W.runS (As := [.int (x3), .int ((1 : Int32)), .int ((12 : Int32))]) (rest := []) ⟨hx, hb, hml, hown, hts⟩ (mt_X5_in l x3 (1 : Int32) (12 : Int32) v8 hc9) (va_cwS 3 hts gX5_beads_X5_in rfl rfl rfl (by decide +kernel) ⟨Nat.le_of_ble_eq_true rfl, Nat.le_of_ble_eq_true rfl⟩) q_pr0 rfl rfl hl.1 rfl (lv_room (Nat.le_of_ble_eq_true rfl)) dX5_beads_24 ⟨Nat.le_of_ble_eq_true rfl, Nat.le_of_ble_eq_true rfl⟩) ?_
      refine q_if_eq (tgt := 40) hx hb dX5_beads_27 (by decide) h (fun h => ?_) (fun h => ?_)
      · refine lv_iconst (v := 0) hx hb dX5_beads_40 (by decide) ?_
        have e1 := congrArg Prod.fst (Option.some.inj h)
        have e2 := congrArg (fun z => z.2.1) (Option.some.inj h)
        have e3 := congrArg (fun z => z.2.2) (Option.some.inj h)
        dsimp only at e1 e2 e3
        exact W.zret hx hb hr rfl (fun t ht hW => ⟨⟨_, (), rfl, e1, by show va_P D vwCl _ t.heap; rw [ht, ← e2, ← e3]; exact hP⟩, hS.F ht⟩) hS.2.2 dX5_beads_41
      · refine lv_iload_n hx hb dX5_beads_30 rfl (lv_at hl 2 rfl) ?_
        refine lv_iload_n hx hb dX5_beads_31 rfl (lv_at hl 3 rfl) ?_
        refine lv_iadd hx hb dX5_beads_32 ?_
        refine lv_aload_n hx hb dX5_beads_33 rfl (lv_at hl 0 rfl) ?_
        obtain ⟨v10, hc11, h⟩ := q_some h
        refine q_cs (W.runV (C := RX5) (As := []) (rest := [.int ((x2 + x3))]) ⟨hx, hb, hml, hown, hts⟩ (mt_X5_columns l D cI cZ ad F G  v10 hc11) (cwV 0 hts gX5_beads_X5_columns rfl rfl rfl (by decide +kernel) ⟨Nat.le_of_ble_eq_true rfl, Nat.le_of_ble_eq_true rfl⟩) ⟨mR_b, va_recv hK hP (ci := 5) (q0 := 0) rfl rfl, (mR_p hP hK hN).2⟩ rfl rfl hl.1 rfl (lv_room (Nat.le_of_ble_eq_true rfl)) dX5_beads_34 ⟨Nat.le_of_ble_eq_true rfl, Nat.le_of_ble_eq_true rfl⟩) ?_
        refine q_icmp_le (tgt := 42) hx hb dX5_beads_37 (by decide) h (fun h => ?_) (fun h => ?_)
        · refine lv_iconst (v := 0) hx hb dX5_beads_42 (by decide) ?_
          refine q_nm h (fun v12 h => ?_)
          refine lv_istore (lv' := [(6, .int (v12)), (0, .ref (ad 99)), (1, .int (x1)), (2, .int (x2)), (3, .int (x3)), (4, .long (x4))]) hx hb dX5_beads_43 hl (by decide) rfl (fun ls hl => ?_)
          exact j45 1000 F G v12 _ _ hP hS _ (lv_sub hl [1, 2, 3, 4, 5, 0] rfl) h
        · refine lv_iconst (v := 0) hx hb dX5_beads_40 (by decide) ?_
          have e1 := congrArg Prod.fst (Option.some.inj h)
          have e2 := congrArg (fun z => z.2.1) (Option.some.inj h)
          have e3 := congrArg (fun z => z.2.2) (Option.some.inj h)
          dsimp only at e1 e2 e3
          exact W.zret hx hb hr rfl (fun t ht hW => ⟨⟨_, (), rfl, e1, by show va_P D vwCl _ t.heap; rw [ht, ← e2, ← e3]; exact hP⟩, hS.F ht⟩) hS.2.2 dX5_beads_41
theorem hi_X5_stitch_X5 : ∀ w ∈ u_ws RX5 TX5 48, w ∈ wsX5_stitch := fun w h => (List.mem_cons_of_mem _ (List.mem_append_right _ h))
set_option maxHeartbeats 4000000 in
set_option maxRecDepth 100000 in
theorem mt_X5_stitch (l : Launch) (D : va_G) (cI cZ : ClassId) (ad : Nat → Nat) (F : Nat → Int32) (G : Nat → Nat → Int32) (x1 : Int32) (rv : Int32) (Fz : Nat → Int32) (Gz : Nat → Nat → Int32) (hDD : va_D (fun _ => True) (mW cI cZ ad (fun _ => 0) (fun _ _ => 0))) (h : f_X5_stitch F G x1 = some (rv, Fz, Gz)) : Met l yX5_stitch wsX5_stitch ({ frames := 1, cells := 0, slots := 0, locals := 22 } : Room) (va_Pc [.ref (ad 99), .int x1] (mR D cI cZ ad F G)) (va_Qi (fun z (_ : Unit) => z = rv) (fun _ t => va_P D vwCl (mW cI cZ ad Fz Gz) t.heap) (mA cI cZ ad)) 0 0 (mA cI cZ ad) := by
  refine Met.ofW (cc := cX5_stitch) (maxL := 3) (ret := (some .int)) (by decide) rfl ?_
  intro p e s m args below meth c s₁ B hml hv
  obtain ⟨rfl, hP, hK, hN⟩ := hv
  have hx := B.exec
  have hb := B.bytes
  have hr := B.returns
  have hts := atoms_spec (ws := wsX5_stitch) B.pre
  have hown : s.vm.findClass RX5 = some m.cls := findClass_of_methodNamed B.named
  have hlocks := B.notSynchronized
  have hS : va_S (mA cI cZ ad) s.heap s.heap [] := va_S.rf
  have hl := lv_entry ([.ref (ad 99), .int x1]) (n := 3) (Nat.le_of_ble_eq_true rfl)
  rw [lg_entry_eq]
  generalize (lg_sl ([.ref (ad 99), .int x1]) ++ List.replicate (3 - (lg_sl ([.ref (ad 99), .int x1])).length) Slot.unset).toArray = ls at hl ⊢
  have hl : lv_has ls 3 [(0, .ref (ad 99)), (1, .int (x1))] := hl
  refine lv_iload_n hx hb dX5_stitch_0 rfl (lv_at hl 1 rfl) ?_
  refine lv_iconst (v := 0) hx hb dX5_stitch_1 (by decide) ?_
  refine lv_iconst (v := 1) hx hb dX5_stitch_2 (by decide) ?_
  obtain ⟨v1, hc2, h⟩ := q_some h
  refine q_cs (W.runS (As := [.int (x1), .int ((0 : Int32)), .int ((1 : Int32))]) (rest := []) ⟨hx, hb, hml, hown, hts⟩ (mt_X5_in l x1 (0 : Int32) (1 : Int32) v1 hc2) (va_cwS 3 hts gX5_stitch_X5_in rfl rfl rfl (by decide +kernel) ⟨Nat.le_of_ble_eq_true rfl, Nat.le_of_ble_eq_true rfl⟩) q_pr0 rfl rfl hl.1 rfl (lv_room (Nat.le_of_ble_eq_true rfl)) dX5_stitch_3 ⟨Nat.le_of_ble_eq_true rfl, Nat.le_of_ble_eq_true rfl⟩) ?_
  refine q_if_ne (tgt := 11) hx hb dX5_stitch_6 (by decide) h (fun h => ?_) (fun h => ?_)
  · refine lv_aload_n hx hb dX5_stitch_11 rfl (lv_at hl 0 rfl) ?_
    refine va_get hx hb hts hi_X5_stitch_X5 hown hK hP 0 (m_o99 cI cZ ad F G) rfl 1 (by decide) (hts _ (List.mem_of_getElem? (i := 1) rfl)) (fun _ h9 => h9) rfl dX5_stitch_12 ?_
    refine q_nm h (fun v3 h => ?_)
    refine lv_istore_n (lv' := [(2, .int (v3)), (0, .ref (ad 99)), (1, .int (x1))]) hx hb dX5_stitch_15 rfl hl (by decide) rfl (fun ls hl => ?_)
    refine lv_aload_n hx hb dX5_stitch_16 rfl (lv_at hl 1 rfl) ?_
    refine lv_iload_n hx hb dX5_stitch_17 rfl (lv_at hl 2 rfl) ?_
    refine q_put (ty := .int) hx hb hts hi_X5_stitch_X5 tyX5 tyX5_ok nmX5 hown hK hP (mW_D hDD _ _) hS 0 1 (fun z => mW cI cZ ad z G) (m_o99 cI cZ ad F G) rfl 1 (by decide) (hts _ (List.mem_of_getElem? (i := 1) rfl)) (fun _ h9 => h9) rfl (by decide +kernel) rfl rfl (Nat.le_of_ble_eq_true rfl) (m_f1 cI cZ ad F G _) dX5_stitch_18 h (fun F4 H locs h hP hS => ?_)
    refine lv_iload_n hx hb dX5_stitch_21 rfl (lv_at hl 0 rfl) ?_
    have e1 := congrArg Prod.fst (Option.some.inj h)
    have e2 := congrArg (fun z => z.2.1) (Option.some.inj h)
    have e3 := congrArg (fun z => z.2.2) (Option.some.inj h)
    dsimp only at e1 e2 e3
    exact W.iret hx hb hr (fun t ht hW => ⟨⟨_, (), rfl, e1, by show va_P D vwCl _ t.heap; rw [ht, ← e2, ← e3]; exact hP⟩, hS.F ht⟩) hS.2.2 dX5_stitch_22
  · refine lv_iconst (v := -1) hx hb dX5_stitch_9 (by decide) ?_
    have e1 := congrArg Prod.fst (Option.some.inj h)
    have e2 := congrArg (fun z => z.2.1) (Option.some.inj h)
    have e3 := congrArg (fun z => z.2.2) (Option.some.inj h)
    dsimp only at e1 e2 e3
    exact W.iret hx hb hr (fun t ht hW => ⟨⟨_, (), rfl, e1, by show va_P D vwCl _ t.heap; rw [ht, ← e2, ← e3]; exact hP⟩, hS.F ht⟩) hS.2.2 dX5_stitch_10
theorem hi_X5_ring_X5 : ∀ w ∈ u_ws RX5 TX5 48, w ∈ wsX5_ring := fun w h => (List.mem_cons_of_mem _ (List.mem_append_right _ h))
set_option maxHeartbeats 4000000 in
set_option maxRecDepth 100000 in
theorem mt_X5_ring (l : Launch) (D : va_G) (cI cZ : ClassId) (ad : Nat → Nat) (F : Nat → Int32) (G : Nat → Nat → Int32) (x1 : Int32) (rv : Int32) (Fz : Nat → Int32) (Gz : Nat → Nat → Int32) (hDD : va_D (fun _ => True) (mW cI cZ ad (fun _ => 0) (fun _ _ => 0))) (h : f_X5_ring F G x1 = some (rv, Fz, Gz)) : Met l yX5_ring wsX5_ring ({ frames := 1, cells := 0, slots := 0, locals := 22 } : Room) (va_Pc [.ref (ad 99), .int x1] (mR D cI cZ ad F G)) (va_Qi (fun z (_ : Unit) => z = rv) (fun _ t => va_P D vwCl (mW cI cZ ad Fz Gz) t.heap) (mA cI cZ ad)) 0 0 (mA cI cZ ad) := by
  refine Met.ofW (cc := cX5_ring) (maxL := 4) (ret := (some .boolean)) (by decide) rfl ?_
  intro p e s m args below meth c s₁ B hml hv
  obtain ⟨rfl, hP, hK, hN⟩ := hv
  have hx := B.exec
  have hb := B.bytes
  have hr := B.returns
  have hts := atoms_spec (ws := wsX5_ring) B.pre
  have hown : s.vm.findClass RX5 = some m.cls := findClass_of_methodNamed B.named
  have hlocks := B.notSynchronized
  have hS : va_S (mA cI cZ ad) s.heap s.heap [] := va_S.rf
  have hl := lv_entry ([.ref (ad 99), .int x1]) (n := 4) (Nat.le_of_ble_eq_true rfl)
  rw [lg_entry_eq]
  generalize (lg_sl ([.ref (ad 99), .int x1]) ++ List.replicate (4 - (lg_sl ([.ref (ad 99), .int x1])).length) Slot.unset).toArray = ls at hl ⊢
  have hl : lv_has ls 4 [(0, .ref (ad 99)), (1, .int (x1))] := hl
  have j65 : ∀ (F : Nat → Int32) (G : Nat → Nat → Int32) (H : Heap) (locs : List Loc) , va_P D vwCl (mW cI cZ ad F G) H → va_S (mA cI cZ ad) s.heap H locs → ∀ ls : Array Slot, lv_has ls 4 [(0, .ref (ad 99)), (1, .int (x1))] → f_X5_ring_B65 x1 F G = some (rv, Fz, Gz) → W p l e (headSpec wsX5_ring ({ frames := 1, cells := 0, slots := 0, locals := 22 } : Room)).room s m (List.toArray ([.ref (ad 99), .int x1] : List Value)) below meth c H locs 0 0 (MQ below (va_Qi (fun z (_ : Unit) => z = rv) (fun _ t => va_P D vwCl (mW cI cZ ad Fz Gz) t.heap) (mA cI cZ ad)) (List.toArray ([.ref (ad 99), .int x1] : List Value)) s 0 0 (mA cI cZ ad)) (F0 m 65 ls []) := by
    intro F G H locs hP hS ls hl h
    refine lv_aload_n hx hb dX5_ring_65 rfl (lv_at hl 0 rfl) ?_
    refine lv_iload_n hx hb dX5_ring_66 rfl (lv_at hl 1 rfl) ?_
    refine q_put (ty := .int) hx hb hts hi_X5_ring_X5 tyX5 tyX5_ok nmX5 hown hK hP (mW_D hDD _ _) hS 0 2 (fun z => mW cI cZ ad z G) (m_o99 cI cZ ad F G) rfl 2 (by decide) (hts _ (List.mem_of_getElem? (i := 2) rfl)) (fun _ h9 => h9) rfl (by decide +kernel) rfl rfl (Nat.le_of_ble_eq_true rfl) (m_f2 cI cZ ad F G _) dX5_ring_67 h (fun F1 H locs h hP hS => ?_)
    refine lv_iconst (v := 1) hx hb dX5_ring_70 (by decide) ?_
    have e1 := congrArg Prod.fst (Option.some.inj h)
    have e2 := congrArg (fun z => z.2.1) (Option.some.inj h)
    have e3 := congrArg (fun z => z.2.2) (Option.some.inj h)
    dsimp only at e1 e2 e3
    exact W.zret hx hb hr rfl (fun t ht hW => ⟨⟨_, (), rfl, e1, by show va_P D vwCl _ t.heap; rw [ht, ← e2, ← e3]; exact hP⟩, hS.F ht⟩) hS.2.2 dX5_ring_71
  have j18 : ∀ n18 : Nat, ∀ (F : Nat → Int32) (G : Nat → Nat → Int32) (x2 : Int32) (H : Heap) (locs : List Loc) , va_P D vwCl (mW cI cZ ad F G) H → va_S (mA cI cZ ad) s.heap H locs → ∀ ls : Array Slot, lv_has ls 4 [(0, .ref (ad 99)), (1, .int (x1)), (2, .int (x2))] → f_X5_ring_L18 x1 n18 F G x2 = some (rv, Fz, Gz) → W p l e (headSpec wsX5_ring ({ frames := 1, cells := 0, slots := 0, locals := 22 } : Room)).room s m (List.toArray ([.ref (ad 99), .int x1] : List Value)) below meth c H locs 0 0 (MQ below (va_Qi (fun z (_ : Unit) => z = rv) (fun _ t => va_P D vwCl (mW cI cZ ad Fz Gz) t.heap) (mA cI cZ ad)) (List.toArray ([.ref (ad 99), .int x1] : List Value)) s 0 0 (mA cI cZ ad)) (F0 m 18 ls []) := by
    intro n18
    induction n18 with
    | zero =>
      intro F G x2 H locs hP hS ls hl h
      cases h
    | succ n18 ih18 =>
      have j30 : ∀ n30 : Nat, ∀ (F : Nat → Int32) (G : Nat → Nat → Int32) (x2 : Int32) (x3 : Int32) (H : Heap) (locs : List Loc) , va_P D vwCl (mW cI cZ ad F G) H → va_S (mA cI cZ ad) s.heap H locs → ∀ ls : Array Slot, lv_has ls 4 [(0, .ref (ad 99)), (1, .int (x1)), (2, .int (x2)), (3, .int (x3))] → f_X5_ring_L30 (f_X5_ring_L18 x1 n18) x1 n30 F G x2 x3 = some (rv, Fz, Gz) → W p l e (headSpec wsX5_ring ({ frames := 1, cells := 0, slots := 0, locals := 22 } : Room)).room s m (List.toArray ([.ref (ad 99), .int x1] : List Value)) below meth c H locs 0 0 (MQ below (va_Qi (fun z (_ : Unit) => z = rv) (fun _ t => va_P D vwCl (mW cI cZ ad Fz Gz) t.heap) (mA cI cZ ad)) (List.toArray ([.ref (ad 99), .int x1] : List Value)) s 0 0 (mA cI cZ ad)) (F0 m 30 ls []) := by
        intro n30
        induction n30 with
        | zero =>
          intro F G x2 x3 H locs hP hS ls hl h
          cases h
        | succ n30 ih30 =>
          intro F G x2 x3 H locs hP hS ls hl h
          replace h : f_X5_ring_L30_b (f_X5_ring_L18 x1 n18) (f_X5_ring_L30 (f_X5_ring_L18 x1 n18) x1 n30) x1 F G x2 x3 = some (rv, Fz, Gz) := h
          refine lv_iload_n hx hb dX5_ring_30 rfl (lv_at hl 3 rfl) ?_
          refine lv_bipush (v := 12) hx hb dX5_ring_31 (by decide) ?_
          refine q_icmp_ge (tgt := 59) hx hb dX5_ring_33 (by decide) h (fun h => ?_) (fun h => ?_)
          · refine q_iinc (j := 2) (d := (1 : Int32)) (lv2 := fun v2 => [(2, .int (v2)), (0, .ref (ad 99)), (1, .int (x1)), (3, .int (x3))]) hx hb dX5_ring_59 hl rfl (by decide) (by decide) (fun _ => rfl) h (fun v2 ls hl h => ?_)
            refine lv_goto (tgt := 18) hx hb dX5_ring_62 (by decide) ?_
            exact ih18 F G v2 _ _ hP hS _ (lv_sub hl [1, 2, 0] rfl) h
          · refine lv_aload_n hx hb dX5_ring_36 rfl (lv_at hl 0 rfl) ?_
            refine va_get hx hb hts hi_X5_ring_X5 hown hK hP 0 (m_o99 cI cZ ad F G) rfl 0 (by decide) (hts _ (List.mem_of_getElem? (i := 1) rfl)) (fun _ h9 => h9) rfl dX5_ring_37 ?_
            refine lv_bipush (v := 12) hx hb dX5_ring_40 (by decide) ?_
            refine lv_iload_n hx hb dX5_ring_42 rfl (lv_at hl 2 rfl) ?_
            refine lv_imul hx hb dX5_ring_43 ?_
            refine lv_iload_n hx hb dX5_ring_44 rfl (lv_at hl 3 rfl) ?_
            refine lv_iadd hx hb dX5_ring_45 ?_
            refine q_ld hx hb hK hP 1 0 (m_a0 cI cZ ad F G) rfl dX5_ring_46 h (fun v3 h => ?_)
            refine lv_iconst (v := -1) hx hb dX5_ring_47 (by decide) ?_
            refine q_icmp_eq (tgt := 53) hx hb dX5_ring_48 (by decide) h (fun h => ?_) (fun h => ?_)
            · refine q_iinc (j := 3) (d := (1 : Int32)) (lv2 := fun v4 => [(3, .int (v4)), (0, .ref (ad 99)), (1, .int (x1)), (2, .int (x2))]) hx hb dX5_ring_53 hl rfl (by decide) (by decide) (fun _ => rfl) h (fun v4 ls hl h => ?_)
              refine lv_goto (tgt := 30) hx hb dX5_ring_56 (by decide) ?_
              exact ih30 F G x2 v4 _ _ hP hS _ (lv_sub hl [1, 2, 3, 0] rfl) h
            · refine lv_iconst (v := 0) hx hb dX5_ring_51 (by decide) ?_
              have e1 := congrArg Prod.fst (Option.some.inj h)
              have e2 := congrArg (fun z => z.2.1) (Option.some.inj h)
              have e3 := congrArg (fun z => z.2.2) (Option.some.inj h)
              dsimp only at e1 e2 e3
              exact W.zret hx hb hr rfl (fun t ht hW => ⟨⟨_, (), rfl, e1, by show va_P D vwCl _ t.heap; rw [ht, ← e2, ← e3]; exact hP⟩, hS.F ht⟩) hS.2.2 dX5_ring_52
      intro F G x2 H locs hP hS ls hl h
      replace h : f_X5_ring_L18_b (f_X5_ring_L18 x1 n18) x1 F G x2 = some (rv, Fz, Gz) := h
      refine lv_iload_n hx hb dX5_ring_18 rfl (lv_at hl 2 rfl) ?_
      refine lv_bipush (v := 12) hx hb dX5_ring_19 (by decide) ?_
      refine q_icmp_ge (tgt := 65) hx hb dX5_ring_21 (by decide) h (fun h => ?_) (fun h => ?_)
      · exact j65 F G _ _ hP hS _ (lv_sub hl [0, 1] rfl) h
      · refine lv_iload_n hx hb dX5_ring_24 rfl (lv_at hl 1 rfl) ?_
        refine q_if_le (tgt := 65) hx hb dX5_ring_25 (by decide) h (fun h => ?_) (fun h => ?_)
        · exact j65 F G _ _ hP hS _ (lv_sub hl [0, 1] rfl) h
        · refine lv_iload_n hx hb dX5_ring_28 rfl (lv_at hl 1 rfl) ?_
          refine lv_istore_n (lv' := [(3, .int (x1)), (0, .ref (ad 99)), (1, .int (x1)), (2, .int (x2))]) hx hb dX5_ring_29 rfl hl (by decide) rfl (fun ls hl => ?_)
          exact j30 1000 F G x2 x1 _ _ hP hS _ (lv_sub hl [1, 2, 3, 0] rfl) h
  have j16 : ∀ (F : Nat → Int32) (G : Nat → Nat → Int32) (H : Heap) (locs : List Loc) , va_P D vwCl (mW cI cZ ad F G) H → va_S (mA cI cZ ad) s.heap H locs → ∀ ls : Array Slot, lv_has ls 4 [(0, .ref (ad 99)), (1, .int (x1))] → f_X5_ring_B16 x1 F G = some (rv, Fz, Gz) → W p l e (headSpec wsX5_ring ({ frames := 1, cells := 0, slots := 0, locals := 22 } : Room)).room s m (List.toArray ([.ref (ad 99), .int x1] : List Value)) below meth c H locs 0 0 (MQ below (va_Qi (fun z (_ : Unit) => z = rv) (fun _ t => va_P D vwCl (mW cI cZ ad Fz Gz) t.heap) (mA cI cZ ad)) (List.toArray ([.ref (ad 99), .int x1] : List Value)) s 0 0 (mA cI cZ ad)) (F0 m 16 ls []) := by
    intro F G H locs hP hS ls hl h
    refine lv_iconst (v := 0) hx hb dX5_ring_16 (by decide) ?_
    refine q_nm h (fun v5 h => ?_)
    refine lv_istore_n (lv' := [(2, .int (v5)), (0, .ref (ad 99)), (1, .int (x1))]) hx hb dX5_ring_17 rfl hl (by decide) rfl (fun ls hl => ?_)
    exact j18 1000 F G v5 _ _ hP hS _ (lv_sub hl [1, 2, 0] rfl) h
  refine lv_iload_n hx hb dX5_ring_0 rfl (lv_at hl 1 rfl) ?_
  refine q_if_eq (tgt := 16) hx hb dX5_ring_1 (by decide) h (fun h => ?_) (fun h => ?_)
  · exact j16 F G _ _ hP hS _ (lv_sub hl [0, 1] rfl) h
  · refine lv_iload_n hx hb dX5_ring_4 rfl (lv_at hl 1 rfl) ?_
    refine lv_iconst (v := 3) hx hb dX5_ring_5 (by decide) ?_
    refine lv_bipush (v := 12) hx hb dX5_ring_6 (by decide) ?_
    obtain ⟨v6, hc7, h⟩ := q_some h
    refine q_cs (W.runS (As := [.int (x1), .int ((3 : Int32)), .int ((12 : Int32))]) (rest := []) ⟨hx, hb, hml, hown, hts⟩ (mt_X5_in l x1 (3 : Int32) (12 : Int32) v6 hc7) (va_cwS 3 hts gX5_ring_X5_in rfl rfl rfl (by decide +kernel) ⟨Nat.le_of_ble_eq_true rfl, Nat.le_of_ble_eq_true rfl⟩) q_pr0 rfl rfl hl.1 rfl (lv_room (Nat.le_of_ble_eq_true rfl)) dX5_ring_8 ⟨Nat.le_of_ble_eq_true rfl, Nat.le_of_ble_eq_true rfl⟩) ?_
    refine q_if_ne (tgt := 16) hx hb dX5_ring_11 (by decide) h (fun h => ?_) (fun h => ?_)
    · exact j16 F G _ _ hP hS _ (lv_sub hl [0, 1] rfl) h
    · refine lv_iconst (v := 0) hx hb dX5_ring_14 (by decide) ?_
      have e1 := congrArg Prod.fst (Option.some.inj h)
      have e2 := congrArg (fun z => z.2.1) (Option.some.inj h)
      have e3 := congrArg (fun z => z.2.2) (Option.some.inj h)
      dsimp only at e1 e2 e3
      exact W.zret hx hb hr rfl (fun t ht hW => ⟨⟨_, (), rfl, e1, by show va_P D vwCl _ t.heap; rw [ht, ← e2, ← e3]; exact hP⟩, hS.F ht⟩) hS.2.2 dX5_ring_15
theorem hi_X5_colour_X5 : ∀ w ∈ u_ws RX5 TX5 48, w ∈ wsX5_colour := fun w h => (List.mem_cons_of_mem _ (List.mem_append_right _ h))
set_option maxHeartbeats 4000000 in
set_option maxRecDepth 100000 in
theorem mt_X5_colour (l : Launch) (D : va_G) (cI cZ : ClassId) (ad : Nat → Nat) (F : Nat → Int32) (G : Nat → Nat → Int32) (x1 : Int32) (x2 : Int32) (x3 : Int32) (x4 : Int32) (rv : Int32) (Fz : Nat → Int32) (Gz : Nat → Nat → Int32) (hDD : va_D (fun _ => True) (mW cI cZ ad (fun _ => 0) (fun _ _ => 0))) (h : f_X5_colour F G x1 x2 x3 x4 = some (rv, Fz, Gz)) : Met l yX5_colour wsX5_colour ({ frames := 2, cells := 0, slots := 0, locals := 42 } : Room) (va_Pc [.ref (ad 99), .int x1, .int x2, .int x3, .int x4] (mR D cI cZ ad F G)) (va_Qi (fun z (_ : Unit) => z = rv) (fun _ t => va_P D vwCl (mW cI cZ ad Fz Gz) t.heap) (mA cI cZ ad)) 0 0 (mA cI cZ ad) := by
  refine Met.ofW (cc := cX5_colour) (maxL := 5) (ret := (some .boolean)) (by decide) rfl ?_
  intro p e s m args below meth c s₁ B hml hv
  obtain ⟨rfl, hP, hK, hN⟩ := hv
  have hx := B.exec
  have hb := B.bytes
  have hr := B.returns
  have hts := atoms_spec (ws := wsX5_colour) B.pre
  have hown : s.vm.findClass RX5 = some m.cls := findClass_of_methodNamed B.named
  have hlocks := B.notSynchronized
  have hS : va_S (mA cI cZ ad) s.heap s.heap [] := va_S.rf
  have hl := lv_entry ([.ref (ad 99), .int x1, .int x2, .int x3, .int x4]) (n := 5) (Nat.le_of_ble_eq_true rfl)
  rw [lg_entry_eq]
  generalize (lg_sl ([.ref (ad 99), .int x1, .int x2, .int x3, .int x4]) ++ List.replicate (5 - (lg_sl ([.ref (ad 99), .int x1, .int x2, .int x3, .int x4])).length) Slot.unset).toArray = ls at hl ⊢
  have hl : lv_has ls 5 [(0, .ref (ad 99)), (1, .int (x1)), (2, .int (x2)), (3, .int (x3)), (4, .int (x4))] := hl
  refine lv_iload_n hx hb dX5_colour_0 rfl (lv_at hl 1 rfl) ?_
  obtain ⟨v1, hc2, h⟩ := q_some h
  refine q_cs (W.runS (As := [.int (x1)]) (rest := []) ⟨hx, hb, hml, hown, hts⟩ (mt_X5_isColour l x1 v1 hc2) (va_cwS 1 hts gX5_colour_X5_isColour rfl rfl rfl (by decide +kernel) ⟨Nat.le_of_ble_eq_true rfl, Nat.le_of_ble_eq_true rfl⟩) q_pr0 rfl rfl hl.1 rfl (lv_room (Nat.le_of_ble_eq_true rfl)) dX5_colour_1 ⟨Nat.le_of_ble_eq_true rfl, Nat.le_of_ble_eq_true rfl⟩) ?_
  refine q_if_eq (tgt := 38) hx hb dX5_colour_4 (by decide) h (fun h => ?_) (fun h => ?_)
  · refine lv_iconst (v := 0) hx hb dX5_colour_38 (by decide) ?_
    have e1 := congrArg Prod.fst (Option.some.inj h)
    have e2 := congrArg (fun z => z.2.1) (Option.some.inj h)
    have e3 := congrArg (fun z => z.2.2) (Option.some.inj h)
    dsimp only at e1 e2 e3
    exact W.zret hx hb hr rfl (fun t ht hW => ⟨⟨_, (), rfl, e1, by show va_P D vwCl _ t.heap; rw [ht, ← e2, ← e3]; exact hP⟩, hS.F ht⟩) hS.2.2 dX5_colour_39
  · refine lv_iload_n hx hb dX5_colour_7 rfl (lv_at hl 2 rfl) ?_
    refine lv_iconst (v := 1) hx hb dX5_colour_8 (by decide) ?_
    refine lv_bipush (v := 9) hx hb dX5_colour_9 (by decide) ?_
    obtain ⟨v3, hc4, h⟩ := q_some h
    refine q_cs (W.runS (As := [.int (x2), .int ((1 : Int32)), .int ((9 : Int32))]) (rest := []) ⟨hx, hb, hml, hown, hts⟩ (mt_X5_in l x2 (1 : Int32) (9 : Int32) v3 hc4) (va_cwS 3 hts gX5_colour_X5_in rfl rfl rfl (by decide +kernel) ⟨Nat.le_of_ble_eq_true rfl, Nat.le_of_ble_eq_true rfl⟩) q_pr0 rfl rfl hl.1 rfl (lv_room (Nat.le_of_ble_eq_true rfl)) dX5_colour_11 ⟨Nat.le_of_ble_eq_true rfl, Nat.le_of_ble_eq_true rfl⟩) ?_
    refine q_if_eq (tgt := 38) hx hb dX5_colour_14 (by decide) h (fun h => ?_) (fun h => ?_)
    · refine lv_iconst (v := 0) hx hb dX5_colour_38 (by decide) ?_
      have e1 := congrArg Prod.fst (Option.some.inj h)
      have e2 := congrArg (fun z => z.2.1) (Option.some.inj h)
      have e3 := congrArg (fun z => z.2.2) (Option.some.inj h)
      dsimp only at e1 e2 e3
      exact W.zret hx hb hr rfl (fun t ht hW => ⟨⟨_, (), rfl, e1, by show va_P D vwCl _ t.heap; rw [ht, ← e2, ← e3]; exact hP⟩, hS.F ht⟩) hS.2.2 dX5_colour_39
    · refine lv_iload_n hx hb dX5_colour_17 rfl (lv_at hl 3 rfl) ?_
      refine lv_iconst (v := 1) hx hb dX5_colour_18 (by decide) ?_
      refine lv_bipush (v := 20) hx hb dX5_colour_19 (by decide) ?_
      obtain ⟨v5, hc6, h⟩ := q_some h
      refine q_cs (W.runS (As := [.int (x3), .int ((1 : Int32)), .int ((20 : Int32))]) (rest := []) ⟨hx, hb, hml, hown, hts⟩ (mt_X5_in l x3 (1 : Int32) (20 : Int32) v5 hc6) (va_cwS 3 hts gX5_colour_X5_in rfl rfl rfl (by decide +kernel) ⟨Nat.le_of_ble_eq_true rfl, Nat.le_of_ble_eq_true rfl⟩) q_pr0 rfl rfl hl.1 rfl (lv_room (Nat.le_of_ble_eq_true rfl)) dX5_colour_21 ⟨Nat.le_of_ble_eq_true rfl, Nat.le_of_ble_eq_true rfl⟩) ?_
      refine q_if_eq (tgt := 38) hx hb dX5_colour_24 (by decide) h (fun h => ?_) (fun h => ?_)
      · refine lv_iconst (v := 0) hx hb dX5_colour_38 (by decide) ?_
        have e1 := congrArg Prod.fst (Option.some.inj h)
        have e2 := congrArg (fun z => z.2.1) (Option.some.inj h)
        have e3 := congrArg (fun z => z.2.2) (Option.some.inj h)
        dsimp only at e1 e2 e3
        exact W.zret hx hb hr rfl (fun t ht hW => ⟨⟨_, (), rfl, e1, by show va_P D vwCl _ t.heap; rw [ht, ← e2, ← e3]; exact hP⟩, hS.F ht⟩) hS.2.2 dX5_colour_39
      · refine lv_iload hx hb dX5_colour_27 (lv_at hl 4 rfl) ?_
        refine lv_iconst (v := 1) hx hb dX5_colour_29 (by decide) ?_
        refine lv_bipush (v := 100) hx hb dX5_colour_30 (by decide) ?_
        obtain ⟨v7, hc8, h⟩ := q_some h
        refine q_cs (W.runS (As := [.int (x4), .int ((1 : Int32)), .int ((100 : Int32))]) (rest := []) ⟨hx, hb, hml, hown, hts⟩ (mt_X5_in l x4 (1 : Int32) (100 : Int32) v7 hc8) (va_cwS 3 hts gX5_colour_X5_in rfl rfl rfl (by decide +kernel) ⟨Nat.le_of_ble_eq_true rfl, Nat.le_of_ble_eq_true rfl⟩) q_pr0 rfl rfl hl.1 rfl (lv_room (Nat.le_of_ble_eq_true rfl)) dX5_colour_32 ⟨Nat.le_of_ble_eq_true rfl, Nat.le_of_ble_eq_true rfl⟩) ?_
        refine q_if_ne (tgt := 40) hx hb dX5_colour_35 (by decide) h (fun h => ?_) (fun h => ?_)
        · refine lv_aload_n hx hb dX5_colour_40 rfl (lv_at hl 0 rfl) ?_
          refine va_get hx hb hts hi_X5_colour_X5 hown hK hP 0 (m_o99 cI cZ ad F G) rfl 3 (by decide) (hts _ (List.mem_of_getElem? (i := 1) rfl)) (fun _ h9 => h9) rfl dX5_colour_41 ?_
          refine lv_iload_n hx hb dX5_colour_44 rfl (lv_at hl 1 rfl) ?_
          refine lv_iload_n hx hb dX5_colour_45 rfl (lv_at hl 2 rfl) ?_
          refine q_st hx hb hK hP (mW_D hDD _ _) hS 2 0 3 (fun z => mW cI cZ ad F z) (m_a3 cI cZ ad F G) rfl (m_g3 cI cZ ad F G _) dX5_colour_46 h (fun G9 H locs h hP hS => ?_)
          refine lv_aload_n hx hb dX5_colour_47 rfl (lv_at hl 0 rfl) ?_
          refine va_get hx hb hts hi_X5_colour_X5 hown hK hP 0 (m_o99 cI cZ ad F G9) rfl 4 (by decide) (hts _ (List.mem_of_getElem? (i := 2) rfl)) (fun _ h9 => h9) rfl dX5_colour_48 ?_
          refine lv_iload_n hx hb dX5_colour_51 rfl (lv_at hl 1 rfl) ?_
          refine lv_iload_n hx hb dX5_colour_52 rfl (lv_at hl 3 rfl) ?_
          refine q_st hx hb hK hP (mW_D hDD _ _) hS 3 0 4 (fun z => mW cI cZ ad F z) (m_a4 cI cZ ad F G9) rfl (m_g4 cI cZ ad F G9 _) dX5_colour_53 h (fun G10 H locs h hP hS => ?_)
          refine lv_aload_n hx hb dX5_colour_54 rfl (lv_at hl 0 rfl) ?_
          refine va_get hx hb hts hi_X5_colour_X5 hown hK hP 0 (m_o99 cI cZ ad F G10) rfl 5 (by decide) (hts _ (List.mem_of_getElem? (i := 3) rfl)) (fun _ h9 => h9) rfl dX5_colour_55 ?_
          refine lv_iload_n hx hb dX5_colour_58 rfl (lv_at hl 1 rfl) ?_
          refine lv_iload hx hb dX5_colour_59 (lv_at hl 4 rfl) ?_
          refine q_st hx hb hK hP (mW_D hDD _ _) hS 4 0 5 (fun z => mW cI cZ ad F z) (m_a5 cI cZ ad F G10) rfl (m_g5 cI cZ ad F G10 _) dX5_colour_61 h (fun G11 H locs h hP hS => ?_)
          refine lv_iconst (v := 1) hx hb dX5_colour_62 (by decide) ?_
          have e1 := congrArg Prod.fst (Option.some.inj h)
          have e2 := congrArg (fun z => z.2.1) (Option.some.inj h)
          have e3 := congrArg (fun z => z.2.2) (Option.some.inj h)
          dsimp only at e1 e2 e3
          exact W.zret hx hb hr rfl (fun t ht hW => ⟨⟨_, (), rfl, e1, by show va_P D vwCl _ t.heap; rw [ht, ← e2, ← e3]; exact hP⟩, hS.F ht⟩) hS.2.2 dX5_colour_63
        · refine lv_iconst (v := 0) hx hb dX5_colour_38 (by decide) ?_
          have e1 := congrArg Prod.fst (Option.some.inj h)
          have e2 := congrArg (fun z => z.2.1) (Option.some.inj h)
          have e3 := congrArg (fun z => z.2.2) (Option.some.inj h)
          dsimp only at e1 e2 e3
          exact W.zret hx hb hr rfl (fun t ht hW => ⟨⟨_, (), rfl, e1, by show va_P D vwCl _ t.heap; rw [ht, ← e2, ← e3]; exact hP⟩, hS.F ht⟩) hS.2.2 dX5_colour_39
theorem hi_X5_thread_X5 : ∀ w ∈ u_ws RX5 TX5 48, w ∈ wsX5_thread := fun w h => (List.mem_cons_of_mem _ (List.mem_append_right _ h))
set_option maxHeartbeats 4000000 in
set_option maxRecDepth 100000 in
theorem mt_X5_thread (l : Launch) (D : va_G) (cI cZ : ClassId) (ad : Nat → Nat) (F : Nat → Int32) (G : Nat → Nat → Int32) (x1 : Int32) (x2 : Int32) (rv : Int32) (Fz : Nat → Int32) (Gz : Nat → Nat → Int32) (hDD : va_D (fun _ => True) (mW cI cZ ad (fun _ => 0) (fun _ _ => 0))) (h : f_X5_thread F G x1 x2 = some (rv, Fz, Gz)) : Met l yX5_thread wsX5_thread ({ frames := 1, cells := 0, slots := 0, locals := 22 } : Room) (va_Pc [.ref (ad 99), .int x1, .int x2] (mR D cI cZ ad F G)) (va_Qi (fun z (_ : Unit) => z = rv) (fun _ t => va_P D vwCl (mW cI cZ ad Fz Gz) t.heap) (mA cI cZ ad)) 0 0 (mA cI cZ ad) := by
  refine Met.ofW (cc := cX5_thread) (maxL := 3) (ret := (some .boolean)) (by decide) rfl ?_
  intro p e s m args below meth c s₁ B hml hv
  obtain ⟨rfl, hP, hK, hN⟩ := hv
  have hx := B.exec
  have hb := B.bytes
  have hr := B.returns
  have hts := atoms_spec (ws := wsX5_thread) B.pre
  have hown : s.vm.findClass RX5 = some m.cls := findClass_of_methodNamed B.named
  have hlocks := B.notSynchronized
  have hS : va_S (mA cI cZ ad) s.heap s.heap [] := va_S.rf
  have hl := lv_entry ([.ref (ad 99), .int x1, .int x2]) (n := 3) (Nat.le_of_ble_eq_true rfl)
  rw [lg_entry_eq]
  generalize (lg_sl ([.ref (ad 99), .int x1, .int x2]) ++ List.replicate (3 - (lg_sl ([.ref (ad 99), .int x1, .int x2])).length) Slot.unset).toArray = ls at hl ⊢
  have hl : lv_has ls 3 [(0, .ref (ad 99)), (1, .int (x1)), (2, .int (x2))] := hl
  refine lv_iload_n hx hb dX5_thread_0 rfl (lv_at hl 1 rfl) ?_
  refine lv_iconst (v := 1) hx hb dX5_thread_1 (by decide) ?_
  refine lv_sipush (v := 9999) hx hb dX5_thread_2 (by decide) ?_
  obtain ⟨v1, hc2, h⟩ := q_some h
  refine q_cs (W.runS (As := [.int (x1), .int ((1 : Int32)), .int ((9999 : Int32))]) (rest := []) ⟨hx, hb, hml, hown, hts⟩ (mt_X5_in l x1 (1 : Int32) (9999 : Int32) v1 hc2) (va_cwS 3 hts gX5_thread_X5_in rfl rfl rfl (by decide +kernel) ⟨Nat.le_of_ble_eq_true rfl, Nat.le_of_ble_eq_true rfl⟩) q_pr0 rfl rfl hl.1 rfl (lv_room (Nat.le_of_ble_eq_true rfl)) dX5_thread_5 ⟨Nat.le_of_ble_eq_true rfl, Nat.le_of_ble_eq_true rfl⟩) ?_
  refine q_if_eq (tgt := 21) hx hb dX5_thread_8 (by decide) h (fun h => ?_) (fun h => ?_)
  · refine lv_iconst (v := 0) hx hb dX5_thread_21 (by decide) ?_
    have e1 := congrArg Prod.fst (Option.some.inj h)
    have e2 := congrArg (fun z => z.2.1) (Option.some.inj h)
    have e3 := congrArg (fun z => z.2.2) (Option.some.inj h)
    dsimp only at e1 e2 e3
    exact W.zret hx hb hr rfl (fun t ht hW => ⟨⟨_, (), rfl, e1, by show va_P D vwCl _ t.heap; rw [ht, ← e2, ← e3]; exact hP⟩, hS.F ht⟩) hS.2.2 dX5_thread_22
  · refine lv_iload_n hx hb dX5_thread_11 rfl (lv_at hl 2 rfl) ?_
    refine lv_iconst (v := 0) hx hb dX5_thread_12 (by decide) ?_
    refine lv_bipush (v := 6) hx hb dX5_thread_13 (by decide) ?_
    obtain ⟨v3, hc4, h⟩ := q_some h
    refine q_cs (W.runS (As := [.int (x2), .int ((0 : Int32)), .int ((6 : Int32))]) (rest := []) ⟨hx, hb, hml, hown, hts⟩ (mt_X5_in l x2 (0 : Int32) (6 : Int32) v3 hc4) (va_cwS 3 hts gX5_thread_X5_in rfl rfl rfl (by decide +kernel) ⟨Nat.le_of_ble_eq_true rfl, Nat.le_of_ble_eq_true rfl⟩) q_pr0 rfl rfl hl.1 rfl (lv_room (Nat.le_of_ble_eq_true rfl)) dX5_thread_15 ⟨Nat.le_of_ble_eq_true rfl, Nat.le_of_ble_eq_true rfl⟩) ?_
    refine q_if_ne (tgt := 23) hx hb dX5_thread_18 (by decide) h (fun h => ?_) (fun h => ?_)
    · refine lv_aload_n hx hb dX5_thread_23 rfl (lv_at hl 0 rfl) ?_
      refine lv_iload_n hx hb dX5_thread_24 rfl (lv_at hl 1 rfl) ?_
      refine q_put (ty := .int) hx hb hts hi_X5_thread_X5 tyX5 tyX5_ok nmX5 hown hK hP (mW_D hDD _ _) hS 0 6 (fun z => mW cI cZ ad z G) (m_o99 cI cZ ad F G) rfl 6 (by decide) (hts _ (List.mem_of_getElem? (i := 1) rfl)) (fun _ h9 => h9) rfl (by decide +kernel) rfl rfl (Nat.le_of_ble_eq_true rfl) (m_f6 cI cZ ad F G _) dX5_thread_25 h (fun F5 H locs h hP hS => ?_)
      refine lv_aload_n hx hb dX5_thread_28 rfl (lv_at hl 0 rfl) ?_
      refine lv_iload_n hx hb dX5_thread_29 rfl (lv_at hl 2 rfl) ?_
      refine q_put (ty := .int) hx hb hts hi_X5_thread_X5 tyX5 tyX5_ok nmX5 hown hK hP (mW_D hDD _ _) hS 0 7 (fun z => mW cI cZ ad z G) (m_o99 cI cZ ad F5 G) rfl 7 (by decide) (hts _ (List.mem_of_getElem? (i := 2) rfl)) (fun _ h9 => h9) rfl (by decide +kernel) rfl rfl (Nat.le_of_ble_eq_true rfl) (m_f7 cI cZ ad F5 G _) dX5_thread_30 h (fun F6 H locs h hP hS => ?_)
      refine lv_iconst (v := 1) hx hb dX5_thread_33 (by decide) ?_
      have e1 := congrArg Prod.fst (Option.some.inj h)
      have e2 := congrArg (fun z => z.2.1) (Option.some.inj h)
      have e3 := congrArg (fun z => z.2.2) (Option.some.inj h)
      dsimp only at e1 e2 e3
      exact W.zret hx hb hr rfl (fun t ht hW => ⟨⟨_, (), rfl, e1, by show va_P D vwCl _ t.heap; rw [ht, ← e2, ← e3]; exact hP⟩, hS.F ht⟩) hS.2.2 dX5_thread_34
    · refine lv_iconst (v := 0) hx hb dX5_thread_21 (by decide) ?_
      have e1 := congrArg Prod.fst (Option.some.inj h)
      have e2 := congrArg (fun z => z.2.1) (Option.some.inj h)
      have e3 := congrArg (fun z => z.2.2) (Option.some.inj h)
      dsimp only at e1 e2 e3
      exact W.zret hx hb hr rfl (fun t ht hW => ⟨⟨_, (), rfl, e1, by show va_P D vwCl _ t.heap; rw [ht, ← e2, ← e3]; exact hP⟩, hS.F ht⟩) hS.2.2 dX5_thread_22
theorem hi_X5_catches_X5 : ∀ w ∈ u_ws RX5 TX5 48, w ∈ wsX5_catches := fun w h => (List.mem_cons_of_mem _ (List.mem_append_right _ h))
set_option maxHeartbeats 4000000 in
set_option maxRecDepth 100000 in
theorem mt_X5_catches (l : Launch) (D : va_G) (cI cZ : ClassId) (ad : Nat → Nat) (F : Nat → Int32) (G : Nat → Nat → Int32) (x1 : Int32) (x2 : Int32) (x3 : Int32) (Fz : Nat → Int32) (Gz : Nat → Nat → Int32) (hDD : va_D (fun _ => True) (mW cI cZ ad (fun _ => 0) (fun _ _ => 0))) (h : f_X5_catches F G x1 x2 x3 = some (Fz, Gz)) : Met l yX5_catches wsX5_catches ({ frames := 2, cells := 0, slots := 0, locals := 45 } : Room) (va_Pc [.ref (ad 99), .int x1, .int x2, .int x3] (mR D cI cZ ad F G)) (va_Qv (fun (_ : Unit) => True) (fun _ t => va_P D vwCl (mW cI cZ ad Fz Gz) t.heap) (mA cI cZ ad)) 0 0 (mA cI cZ ad) := by
  refine Met.ofW (cc := cX5_catches) (maxL := 7) (ret := none) (by decide) rfl ?_
  intro p e s m args below meth c s₁ B hml hv
  obtain ⟨rfl, hP, hK, hN⟩ := hv
  have hx := B.exec
  have hb := B.bytes
  have hr := B.returns
  have hts := atoms_spec (ws := wsX5_catches) B.pre
  have hown : s.vm.findClass RX5 = some m.cls := findClass_of_methodNamed B.named
  have hlocks := B.notSynchronized
  have hS : va_S (mA cI cZ ad) s.heap s.heap [] := va_S.rf
  have hl := lv_entry ([.ref (ad 99), .int x1, .int x2, .int x3]) (n := 7) (Nat.le_of_ble_eq_true rfl)
  rw [lg_entry_eq]
  generalize (lg_sl ([.ref (ad 99), .int x1, .int x2, .int x3]) ++ List.replicate (7 - (lg_sl ([.ref (ad 99), .int x1, .int x2, .int x3])).length) Slot.unset).toArray = ls at hl ⊢
  have hl : lv_has ls 7 [(0, .ref (ad 99)), (1, .int (x1)), (2, .int (x2)), (3, .int (x3))] := hl
  have j102 : ∀ (F : Nat → Int32) (G : Nat → Nat → Int32) (x4 : Int32) (x5 : Int32) (H : Heap) (locs : List Loc) , va_P D vwCl (mW cI cZ ad F G) H → va_S (mA cI cZ ad) s.heap H locs → ∀ ls : Array Slot, lv_has ls 7 [(0, .ref (ad 99)), (4, .int (x4)), (5, .int (x5))] → f_X5_catches_B102 x1 x2 x3 F G x4 x5 = some (Fz, Gz) → W p l e (headSpec wsX5_catches ({ frames := 2, cells := 0, slots := 0, locals := 45 } : Room)).room s m (List.toArray ([.ref (ad 99), .int x1, .int x2, .int x3] : List Value)) below meth c H locs 0 0 (MQ below (va_Qv (fun (_ : Unit) => True) (fun _ t => va_P D vwCl (mW cI cZ ad Fz Gz) t.heap) (mA cI cZ ad)) (List.toArray ([.ref (ad 99), .int x1, .int x2, .int x3] : List Value)) s 0 0 (mA cI cZ ad)) (F0 m 102 ls []) := by
    intro F G x4 x5 H locs hP hS ls hl h
    refine lv_aload_n hx hb dX5_catches_102 rfl (lv_at hl 0 rfl) ?_
    refine va_get hx hb hts hi_X5_catches_X5 hown hK hP 0 (m_o99 cI cZ ad F G) rfl 12 (by decide) (hts _ (List.mem_of_getElem? (i := 3) rfl)) (fun _ h9 => h9) rfl dX5_catches_103 ?_
    refine lv_aload_n hx hb dX5_catches_106 rfl (lv_at hl 0 rfl) ?_
    refine va_get hx hb hts hi_X5_catches_X5 hown hK hP 0 (m_o99 cI cZ ad F G) rfl 8 (by decide) (hts _ (List.mem_of_getElem? (i := 4) rfl)) (fun _ h9 => h9) rfl dX5_catches_107 ?_
    refine lv_iload hx hb dX5_catches_110 (lv_at hl 1 rfl) ?_
    refine q_st hx hb hK hP (mW_D hDD _ _) hS 8 0 12 (fun z => mW cI cZ ad F z) (m_a12 cI cZ ad F G) rfl (m_g12 cI cZ ad F G _) dX5_catches_112 h (fun G1 H locs h hP hS => ?_)
    refine lv_aload_n hx hb dX5_catches_113 rfl (lv_at hl 0 rfl) ?_
    refine va_get hx hb hts hi_X5_catches_X5 hown hK hP 0 (m_o99 cI cZ ad F G1) rfl 13 (by decide) (hts _ (List.mem_of_getElem? (i := 5) rfl)) (fun _ h9 => h9) rfl dX5_catches_114 ?_
    refine lv_aload_n hx hb dX5_catches_117 rfl (lv_at hl 0 rfl) ?_
    refine va_get hx hb hts hi_X5_catches_X5 hown hK hP 0 (m_o99 cI cZ ad F G1) rfl 8 (by decide) (hts _ (List.mem_of_getElem? (i := 4) rfl)) (fun _ h9 => h9) rfl dX5_catches_118 ?_
    refine lv_iload hx hb dX5_catches_121 (lv_at hl 2 rfl) ?_
    refine q_st hx hb hK hP (mW_D hDD _ _) hS 9 0 13 (fun z => mW cI cZ ad F z) (m_a13 cI cZ ad F G1) rfl (m_g13 cI cZ ad F G1 _) dX5_catches_123 h (fun G2 H locs h hP hS => ?_)
    have e2 := congrArg Prod.fst (Option.some.inj h)
    have e3 := congrArg Prod.snd (Option.some.inj h)
    dsimp only at e2 e3
    exact W.vret hx hb hr (fun t ht hW => ⟨⟨(), rfl, trivial, by show va_P D vwCl _ t.heap; rw [ht, ← e2, ← e3]; exact hP⟩, hS.F ht⟩) hS.2.2 dX5_catches_124
  have j79 : ∀ (F : Nat → Int32) (G : Nat → Nat → Int32) (x4 : Int32) (x5 : Int32) (H : Heap) (locs : List Loc) , va_P D vwCl (mW cI cZ ad F G) H → va_S (mA cI cZ ad) s.heap H locs → ∀ ls : Array Slot, lv_has ls 7 [(0, .ref (ad 99)), (4, .int (x4)), (5, .int (x5))] → f_X5_catches_B79 x1 x2 x3 F G x4 x5 = some (Fz, Gz) → W p l e (headSpec wsX5_catches ({ frames := 2, cells := 0, slots := 0, locals := 45 } : Room)).room s m (List.toArray ([.ref (ad 99), .int x1, .int x2, .int x3] : List Value)) below meth c H locs 0 0 (MQ below (va_Qv (fun (_ : Unit) => True) (fun _ t => va_P D vwCl (mW cI cZ ad Fz Gz) t.heap) (mA cI cZ ad)) (List.toArray ([.ref (ad 99), .int x1, .int x2, .int x3] : List Value)) s 0 0 (mA cI cZ ad)) (F0 m 79 ls []) := by
    intro F G x4 x5 H locs hP hS ls hl h
    refine lv_iload hx hb dX5_catches_79 (lv_at hl 1 rfl) ?_
    refine q_if_ge (tgt := 102) hx hb dX5_catches_81 (by decide) h (fun h => ?_) (fun h => ?_)
    · exact j102 F G x4 x5 _ _ hP hS _ (lv_sub hl [0, 1, 2] rfl) h
    · refine lv_iload hx hb dX5_catches_84 (lv_at hl 2 rfl) ?_
      refine lv_istore (lv' := [(4, .int (x5)), (0, .ref (ad 99)), (5, .int (x5))]) hx hb dX5_catches_86 hl (by decide) rfl (fun ls hl => ?_)
      refine lv_iconst (v := -1) hx hb dX5_catches_88 (by decide) ?_
      refine q_nm h (fun v3 h => ?_)
      refine lv_istore (lv' := [(5, .int (v3)), (4, .int (x5)), (0, .ref (ad 99))]) hx hb dX5_catches_89 hl (by decide) rfl (fun ls hl => ?_)
      refine lv_goto (tgt := 102) hx hb dX5_catches_91 (by decide) ?_
      exact j102 F G x5 v3 _ _ hP hS _ (lv_sub hl [2, 1, 0] rfl) h
  refine lv_iconst (v := -1) hx hb dX5_catches_0 (by decide) ?_
  refine q_nm h (fun v4 h => ?_)
  refine lv_istore (lv' := [(4, .int (v4)), (0, .ref (ad 99)), (1, .int (x1)), (2, .int (x2)), (3, .int (x3))]) hx hb dX5_catches_1 hl (by decide) rfl (fun ls hl => ?_)
  refine lv_iconst (v := -1) hx hb dX5_catches_3 (by decide) ?_
  refine q_nm h (fun v5 h => ?_)
  refine lv_istore (lv' := [(5, .int (v5)), (4, .int (v4)), (0, .ref (ad 99)), (1, .int (x1)), (2, .int (x2)), (3, .int (x3))]) hx hb dX5_catches_4 hl (by decide) rfl (fun ls hl => ?_)
  refine lv_aload_n hx hb dX5_catches_6 rfl (lv_at hl 2 rfl) ?_
  refine va_get hx hb hts hi_X5_catches_X5 hown hK hP 0 (m_o99 cI cZ ad F G) rfl 1 (by decide) (hts _ (List.mem_of_getElem? (i := 1) rfl)) (fun _ h9 => h9) rfl dX5_catches_7 ?_
  refine lv_iconst (v := 1) hx hb dX5_catches_10 (by decide) ?_
  refine q_icmp_ne (tgt := 94) hx hb dX5_catches_11 (by decide) h (fun h => ?_) (fun h => ?_)
  · refine lv_aload_n hx hb dX5_catches_94 rfl (lv_at hl 2 rfl) ?_
    refine lv_iload_n hx hb dX5_catches_95 rfl (lv_at hl 5 rfl) ?_
    refine lv_iload_n hx hb dX5_catches_96 rfl (lv_at hl 4 rfl) ?_
    obtain ⟨v6, hc7, h⟩ := q_some h
    refine q_cs (W.runV (C := RX5) (As := [.int (x3), .int (x2)]) (rest := []) ⟨hx, hb, hml, hown, hts⟩ (mt_X5_pickedAt l D cI cZ ad F G x3 x2 v6 hc7) (cwV 2 hts gX5_catches_X5_pickedAt rfl rfl rfl (by decide +kernel) ⟨Nat.le_of_ble_eq_true rfl, Nat.le_of_ble_eq_true rfl⟩) ⟨mR_b, va_recv hK hP (ci := 5) (q0 := 0) rfl rfl, (mR_p hP hK hN).2⟩ rfl rfl hl.1 rfl (lv_room (Nat.le_of_ble_eq_true rfl)) dX5_catches_97 ⟨Nat.le_of_ble_eq_true rfl, Nat.le_of_ble_eq_true rfl⟩) ?_
    refine lv_istore (lv' := [(4, .int (v6)), (5, .int (v5)), (0, .ref (ad 99)), (1, .int (x1)), (2, .int (x2)), (3, .int (x3))]) hx hb dX5_catches_100 hl (by decide) rfl (fun ls hl => ?_)
    exact j102 F G v6 v5 _ _ hP hS _ (lv_sub hl [2, 0, 1] rfl) h
  · refine lv_aload_n hx hb dX5_catches_14 rfl (lv_at hl 2 rfl) ?_
    refine lv_iload_n hx hb dX5_catches_15 rfl (lv_at hl 5 rfl) ?_
    refine lv_iload_n hx hb dX5_catches_16 rfl (lv_at hl 4 rfl) ?_
    refine lv_iconst (v := 1) hx hb dX5_catches_17 (by decide) ?_
    refine lv_isub hx hb dX5_catches_18 ?_
    refine lv_iload_n hx hb dX5_catches_19 rfl (lv_at hl 3 rfl) ?_
    refine lv_iconst (v := 2) hx hb dX5_catches_20 (by decide) ?_
    refine lv_irem hx hb dX5_catches_21 (by decide) ?_
    refine lv_iadd hx hb dX5_catches_22 ?_
    obtain ⟨v8, hc9, h⟩ := q_some h
    refine q_cs (W.runV (C := RX5) (As := [.int (x3), .int (((x2 - (1 : Int32)) + (x1 - x1 / (2 : Int32) * (2 : Int32))))]) (rest := []) ⟨hx, hb, hml, hown, hts⟩ (mt_X5_pickedAt l D cI cZ ad F G x3 (((x2 - (1 : Int32)) + (x1 - x1 / (2 : Int32) * (2 : Int32)))) v8 hc9) (cwV 2 hts gX5_catches_X5_pickedAt rfl rfl rfl (by decide +kernel) ⟨Nat.le_of_ble_eq_true rfl, Nat.le_of_ble_eq_true rfl⟩) ⟨mR_b, va_recv hK hP (ci := 5) (q0 := 0) rfl rfl, (mR_p hP hK hN).2⟩ rfl rfl hl.1 rfl (lv_room (Nat.le_of_ble_eq_true rfl)) dX5_catches_23 ⟨Nat.le_of_ble_eq_true rfl, Nat.le_of_ble_eq_true rfl⟩) ?_
    refine lv_istore (lv' := [(4, .int (v8)), (5, .int (v5)), (0, .ref (ad 99)), (1, .int (x1)), (2, .int (x2)), (3, .int (x3))]) hx hb dX5_catches_26 hl (by decide) rfl (fun ls hl => ?_)
    refine lv_aload_n hx hb dX5_catches_28 rfl (lv_at hl 2 rfl) ?_
    refine lv_iload_n hx hb dX5_catches_29 rfl (lv_at hl 5 rfl) ?_
    refine lv_iload_n hx hb dX5_catches_30 rfl (lv_at hl 4 rfl) ?_
    refine lv_iload_n hx hb dX5_catches_31 rfl (lv_at hl 3 rfl) ?_
    refine lv_iconst (v := 2) hx hb dX5_catches_32 (by decide) ?_
    refine lv_irem hx hb dX5_catches_33 (by decide) ?_
    refine lv_iadd hx hb dX5_catches_34 ?_
    obtain ⟨v10, hc11, h⟩ := q_some h
    refine q_cs (W.runV (C := RX5) (As := [.int (x3), .int ((x2 + (x1 - x1 / (2 : Int32) * (2 : Int32))))]) (rest := []) ⟨hx, hb, hml, hown, hts⟩ (mt_X5_pickedAt l D cI cZ ad F G x3 ((x2 + (x1 - x1 / (2 : Int32) * (2 : Int32)))) v10 hc11) (cwV 2 hts gX5_catches_X5_pickedAt rfl rfl rfl (by decide +kernel) ⟨Nat.le_of_ble_eq_true rfl, Nat.le_of_ble_eq_true rfl⟩) ⟨mR_b, va_recv hK hP (ci := 5) (q0 := 0) rfl rfl, (mR_p hP hK hN).2⟩ rfl rfl hl.1 rfl (lv_room (Nat.le_of_ble_eq_true rfl)) dX5_catches_35 ⟨Nat.le_of_ble_eq_true rfl, Nat.le_of_ble_eq_true rfl⟩) ?_
    refine lv_istore (lv' := [(5, .int (v10)), (4, .int (v8)), (0, .ref (ad 99)), (1, .int (x1)), (2, .int (x2)), (3, .int (x3))]) hx hb dX5_catches_38 hl (by decide) rfl (fun ls hl => ?_)
    refine lv_iload hx hb dX5_catches_40 (lv_at hl 1 rfl) ?_
    refine q_if_lt (tgt := 79) hx hb dX5_catches_42 (by decide) h (fun h => ?_) (fun h => ?_)
    · exact j79 F G v8 v10 _ _ hP hS _ (lv_sub hl [2, 1, 0] rfl) h
    · refine lv_iload hx hb dX5_catches_45 (lv_at hl 0 rfl) ?_
      refine q_if_lt (tgt := 79) hx hb dX5_catches_47 (by decide) h (fun h => ?_) (fun h => ?_)
      · exact j79 F G v8 v10 _ _ hP hS _ (lv_sub hl [2, 1, 0] rfl) h
      · refine lv_aload_n hx hb dX5_catches_50 rfl (lv_at hl 2 rfl) ?_
        refine va_get hx hb hts hi_X5_catches_X5 hown hK hP 0 (m_o99 cI cZ ad F G) rfl 9 (by decide) (hts _ (List.mem_of_getElem? (i := 2) rfl)) (fun _ h9 => h9) rfl dX5_catches_51 ?_
        refine lv_iload hx hb dX5_catches_54 (lv_at hl 1 rfl) ?_
        refine q_ld hx hb hK hP 5 0 (m_a9 cI cZ ad F G) rfl dX5_catches_56 h (fun v12 h => ?_)
        refine lv_aload_n hx hb dX5_catches_57 rfl (lv_at hl 2 rfl) ?_
        refine va_get hx hb hts hi_X5_catches_X5 hown hK hP 0 (m_o99 cI cZ ad F G) rfl 9 (by decide) (hts _ (List.mem_of_getElem? (i := 2) rfl)) (fun _ h9 => h9) rfl dX5_catches_58 ?_
        refine lv_iload hx hb dX5_catches_61 (lv_at hl 0 rfl) ?_
        refine q_ld hx hb hK hP 5 0 (m_a9 cI cZ ad F G) rfl dX5_catches_63 h (fun v13 h => ?_)
        refine q_icmp_le (tgt := 79) hx hb dX5_catches_64 (by decide) h (fun h => ?_) (fun h => ?_)
        · exact j79 F G v8 v10 _ _ hP hS _ (lv_sub hl [2, 1, 0] rfl) h
        · refine lv_iload hx hb dX5_catches_67 (lv_at hl 1 rfl) ?_
          refine lv_istore (lv' := [(6, .int (v8)), (5, .int (v10)), (4, .int (v8)), (0, .ref (ad 99)), (1, .int (x1)), (2, .int (x2)), (3, .int (x3))]) hx hb dX5_catches_69 hl (by decide) rfl (fun ls hl => ?_)
          refine lv_iload hx hb dX5_catches_71 (lv_at hl 1 rfl) ?_
          refine lv_istore (lv' := [(4, .int (v10)), (6, .int (v8)), (5, .int (v10)), (0, .ref (ad 99)), (1, .int (x1)), (2, .int (x2)), (3, .int (x3))]) hx hb dX5_catches_73 hl (by decide) rfl (fun ls hl => ?_)
          refine lv_iload hx hb dX5_catches_75 (lv_at hl 1 rfl) ?_
          refine lv_istore (lv' := [(5, .int (v8)), (4, .int (v10)), (6, .int (v8)), (0, .ref (ad 99)), (1, .int (x1)), (2, .int (x2)), (3, .int (x3))]) hx hb dX5_catches_77 hl (by decide) rfl (fun ls hl => ?_)
          exact j79 F G v10 v8 _ _ hP hS _ (lv_sub hl [3, 1, 0] rfl) h
theorem hi_X5_passesBy_X5 : ∀ w ∈ u_ws RX5 TX5 48, w ∈ wsX5_passesBy := fun w h => (List.mem_cons_of_mem _ (List.mem_append_right _ h))
set_option maxHeartbeats 4000000 in
set_option maxRecDepth 100000 in
theorem mt_X5_passesBy (l : Launch) (D : va_G) (cI cZ : ClassId) (ad : Nat → Nat) (F : Nat → Int32) (G : Nat → Nat → Int32) (x1 : Int32) (Fz : Nat → Int32) (Gz : Nat → Nat → Int32) (hDD : va_D (fun _ => True) (mW cI cZ ad (fun _ => 0) (fun _ _ => 0))) (h : f_X5_passesBy F G x1 = some (Fz, Gz)) : Met l yX5_passesBy wsX5_passesBy ({ frames := 0, cells := 0, slots := 0, locals := 0 } : Room) (va_Pc [.ref (ad 99), .int x1] (mR D cI cZ ad F G)) (va_Qv (fun (_ : Unit) => True) (fun _ t => va_P D vwCl (mW cI cZ ad Fz Gz) t.heap) (mA cI cZ ad)) 0 0 (mA cI cZ ad) := by
  refine Met.ofW (cc := cX5_passesBy) (maxL := 2) (ret := none) (by decide) rfl ?_
  intro p e s m args below meth c s₁ B hml hv
  obtain ⟨rfl, hP, hK, hN⟩ := hv
  have hx := B.exec
  have hb := B.bytes
  have hr := B.returns
  have hts := atoms_spec (ws := wsX5_passesBy) B.pre
  have hown : s.vm.findClass RX5 = some m.cls := findClass_of_methodNamed B.named
  have hlocks := B.notSynchronized
  have hS : va_S (mA cI cZ ad) s.heap s.heap [] := va_S.rf
  have hl := lv_entry ([.ref (ad 99), .int x1]) (n := 2) (Nat.le_of_ble_eq_true rfl)
  rw [lg_entry_eq]
  generalize (lg_sl ([.ref (ad 99), .int x1]) ++ List.replicate (2 - (lg_sl ([.ref (ad 99), .int x1])).length) Slot.unset).toArray = ls at hl ⊢
  have hl : lv_has ls 2 [(0, .ref (ad 99)), (1, .int (x1))] := hl
  refine lv_aload_n hx hb dX5_passesBy_0 rfl (lv_at hl 0 rfl) ?_
  refine va_get hx hb hts hi_X5_passesBy_X5 hown hK hP 0 (m_o99 cI cZ ad F G) rfl 28 (by decide) (hts _ (List.mem_of_getElem? (i := 1) rfl)) (fun _ h9 => h9) rfl dX5_passesBy_1 ?_
  refine lv_aload_n hx hb dX5_passesBy_4 rfl (lv_at hl 0 rfl) ?_
  refine va_get hx hb hts hi_X5_passesBy_X5 hown hK hP 0 (m_o99 cI cZ ad F G) rfl 27 (by decide) (hts _ (List.mem_of_getElem? (i := 2) rfl)) (fun _ h9 => h9) rfl dX5_passesBy_5 ?_
  refine lv_iload_n hx hb dX5_passesBy_8 rfl (lv_at hl 1 rfl) ?_
  refine q_st hx hb hK hP (mW_D hDD _ _) hS 14 0 28 (fun z => mW cI cZ ad F z) (m_a28 cI cZ ad F G) rfl (m_g28 cI cZ ad F G _) dX5_passesBy_9 h (fun G1 H locs h hP hS => ?_)
  refine lv_aload_n hx hb dX5_passesBy_10 rfl (lv_at hl 0 rfl) ?_
  refine lv_dup hx hb dX5_passesBy_11 rfl ?_
  refine va_get hx hb hts hi_X5_passesBy_X5 hown hK hP 0 (m_o99 cI cZ ad F G1) rfl 27 (by decide) (hts _ (List.mem_of_getElem? (i := 2) rfl)) (fun _ h9 => h9) rfl dX5_passesBy_12 ?_
  refine lv_iconst (v := 1) hx hb dX5_passesBy_15 (by decide) ?_
  refine lv_iadd hx hb dX5_passesBy_16 ?_
  refine q_put (ty := .int) hx hb hts hi_X5_passesBy_X5 tyX5 tyX5_ok nmX5 hown hK hP (mW_D hDD _ _) hS 0 27 (fun z => mW cI cZ ad z G1) (m_o99 cI cZ ad F G1) rfl 27 (by decide) (hts _ (List.mem_of_getElem? (i := 2) rfl)) (fun _ h9 => h9) rfl (by decide +kernel) rfl rfl (Nat.le_of_ble_eq_true rfl) (m_f27 cI cZ ad F G1 _) dX5_passesBy_17 h (fun F2 H locs h hP hS => ?_)
  have e2 := congrArg Prod.fst (Option.some.inj h)
  have e3 := congrArg Prod.snd (Option.some.inj h)
  dsimp only at e2 e3
  exact W.vret hx hb hr (fun t ht hW => ⟨⟨(), rfl, trivial, by show va_P D vwCl _ t.heap; rw [ht, ← e2, ← e3]; exact hP⟩, hS.F ht⟩) hS.2.2 dX5_passesBy_20
theorem hi_X5_joins_X5 : ∀ w ∈ u_ws RX5 TX5 48, w ∈ wsX5_joins := fun w h => (List.mem_cons_of_mem _ (List.mem_append_right _ h))
set_option maxHeartbeats 4000000 in
set_option maxRecDepth 100000 in
theorem mt_X5_joins (l : Launch) (D : va_G) (cI cZ : ClassId) (ad : Nat → Nat) (F : Nat → Int32) (G : Nat → Nat → Int32)  (rv : Int32) (Fz : Nat → Int32) (Gz : Nat → Nat → Int32) (hDD : va_D (fun _ => True) (mW cI cZ ad (fun _ => 0) (fun _ _ => 0))) (h : f_X5_joins F G  = some (rv, Fz, Gz)) : Met l yX5_joins wsX5_joins ({ frames := 1, cells := 0, slots := 0, locals := 26 } : Room) (va_Pc [.ref (ad 99)] (mR D cI cZ ad F G)) (va_Qi (fun z (_ : Unit) => z = rv) (fun _ t => va_P D vwCl (mW cI cZ ad Fz Gz) t.heap) (mA cI cZ ad)) 0 0 (mA cI cZ ad) := by
  refine Met.ofW (cc := cX5_joins) (maxL := 2) (ret := (some .boolean)) (by decide) rfl ?_
  intro p e s m args below meth c s₁ B hml hv
  obtain ⟨rfl, hP, hK, hN⟩ := hv
  have hx := B.exec
  have hb := B.bytes
  have hr := B.returns
  have hts := atoms_spec (ws := wsX5_joins) B.pre
  have hown : s.vm.findClass RX5 = some m.cls := findClass_of_methodNamed B.named
  have hlocks := B.notSynchronized
  have hS : va_S (mA cI cZ ad) s.heap s.heap [] := va_S.rf
  have hl := lv_entry ([.ref (ad 99)]) (n := 2) (Nat.le_of_ble_eq_true rfl)
  rw [lg_entry_eq]
  generalize (lg_sl ([.ref (ad 99)]) ++ List.replicate (2 - (lg_sl ([.ref (ad 99)])).length) Slot.unset).toArray = ls at hl ⊢
  have hl : lv_has ls 2 [(0, .ref (ad 99))] := hl
  have j28 : ∀ n28 : Nat, ∀ (F : Nat → Int32) (G : Nat → Nat → Int32) (x1 : Int32) (H : Heap) (locs : List Loc) , va_P D vwCl (mW cI cZ ad F G) H → va_S (mA cI cZ ad) s.heap H locs → ∀ ls : Array Slot, lv_has ls 2 [(0, .ref (ad 99)), (1, .int (x1))] → f_X5_joins_L28 n28 F G x1 = some (rv, Fz, Gz) → W p l e (headSpec wsX5_joins ({ frames := 1, cells := 0, slots := 0, locals := 26 } : Room)).room s m (List.toArray ([.ref (ad 99)] : List Value)) below meth c H locs 0 0 (MQ below (va_Qi (fun z (_ : Unit) => z = rv) (fun _ t => va_P D vwCl (mW cI cZ ad Fz Gz) t.heap) (mA cI cZ ad)) (List.toArray ([.ref (ad 99)] : List Value)) s 0 0 (mA cI cZ ad)) (F0 m 28 ls []) := by
    intro n28
    induction n28 with
    | zero =>
      intro F G x1 H locs hP hS ls hl h
      cases h
    | succ n28 ih28 =>
      intro F G x1 H locs hP hS ls hl h
      replace h : f_X5_joins_L28_b (f_X5_joins_L28 n28) F G x1 = some (rv, Fz, Gz) := h
      refine lv_iload_n hx hb dX5_joins_28 rfl (lv_at hl 1 rfl) ?_
      refine lv_aload_n hx hb dX5_joins_29 rfl (lv_at hl 0 rfl) ?_
      refine va_get hx hb hts hi_X5_joins_X5 hown hK hP 0 (m_o99 cI cZ ad F G) rfl 7 (by decide) (hts _ (List.mem_of_getElem? (i := 3) rfl)) (fun _ h9 => h9) rfl dX5_joins_30 ?_
      refine q_icmp_ge (tgt := 92) hx hb dX5_joins_33 (by decide) h (fun h => ?_) (fun h => ?_)
      · refine lv_aload_n hx hb dX5_joins_92 rfl (lv_at hl 0 rfl) ?_
        refine va_get hx hb hts hi_X5_joins_X5 hown hK hP 0 (m_o99 cI cZ ad F G) rfl 21 (by decide) (hts _ (List.mem_of_getElem? (i := 7) rfl)) (fun _ h9 => h9) rfl dX5_joins_93 ?_
        refine lv_aload_n hx hb dX5_joins_96 rfl (lv_at hl 0 rfl) ?_
        refine va_get hx hb hts hi_X5_joins_X5 hown hK hP 0 (m_o99 cI cZ ad F G) rfl 18 (by decide) (hts _ (List.mem_of_getElem? (i := 6) rfl)) (fun _ h9 => h9) rfl dX5_joins_97 ?_
        refine lv_aload_n hx hb dX5_joins_100 rfl (lv_at hl 0 rfl) ?_
        refine va_get hx hb hts hi_X5_joins_X5 hown hK hP 0 (m_o99 cI cZ ad F G) rfl 7 (by decide) (hts _ (List.mem_of_getElem? (i := 3) rfl)) (fun _ h9 => h9) rfl dX5_joins_101 ?_
        refine q_st hx hb hK hP (mW_D hDD _ _) hS 12 0 21 (fun z => mW cI cZ ad F z) (m_a21 cI cZ ad F G) rfl (m_g21 cI cZ ad F G _) dX5_joins_104 h (fun G1 H locs h hP hS => ?_)
        refine lv_aload_n hx hb dX5_joins_105 rfl (lv_at hl 0 rfl) ?_
        refine lv_dup hx hb dX5_joins_106 rfl ?_
        refine va_get hx hb hts hi_X5_joins_X5 hown hK hP 0 (m_o99 cI cZ ad F G1) rfl 18 (by decide) (hts _ (List.mem_of_getElem? (i := 6) rfl)) (fun _ h9 => h9) rfl dX5_joins_107 ?_
        refine lv_iconst (v := 1) hx hb dX5_joins_110 (by decide) ?_
        refine lv_iadd hx hb dX5_joins_111 ?_
        refine q_put (ty := .int) hx hb hts hi_X5_joins_X5 tyX5 tyX5_ok nmX5 hown hK hP (mW_D hDD _ _) hS 0 18 (fun z => mW cI cZ ad z G1) (m_o99 cI cZ ad F G1) rfl 18 (by decide) (hts _ (List.mem_of_getElem? (i := 6) rfl)) (fun _ h9 => h9) rfl (by decide +kernel) rfl rfl (Nat.le_of_ble_eq_true rfl) (m_f18 cI cZ ad F G1 _) dX5_joins_112 h (fun F2 H locs h hP hS => ?_)
        refine lv_aload_n hx hb dX5_joins_115 rfl (lv_at hl 0 rfl) ?_
        refine lv_aload_n hx hb dX5_joins_116 rfl (lv_at hl 0 rfl) ?_
        refine va_get hx hb hts hi_X5_joins_X5 hown hK hP 0 (m_o99 cI cZ ad F2 G1) rfl 6 (by decide) (hts _ (List.mem_of_getElem? (i := 8) rfl)) (fun _ h9 => h9) rfl dX5_joins_117 ?_
        refine q_put (ty := .int) hx hb hts hi_X5_joins_X5 tyX5 tyX5_ok nmX5 hown hK hP (mW_D hDD _ _) hS 0 20 (fun z => mW cI cZ ad z G1) (m_o99 cI cZ ad F2 G1) rfl 20 (by decide) (hts _ (List.mem_of_getElem? (i := 9) rfl)) (fun _ h9 => h9) rfl (by decide +kernel) rfl rfl (Nat.le_of_ble_eq_true rfl) (m_f20 cI cZ ad F2 G1 _) dX5_joins_120 h (fun F3 H locs h hP hS => ?_)
        refine lv_iconst (v := 1) hx hb dX5_joins_123 (by decide) ?_
        have e1 := congrArg Prod.fst (Option.some.inj h)
        have e2 := congrArg (fun z => z.2.1) (Option.some.inj h)
        have e3 := congrArg (fun z => z.2.2) (Option.some.inj h)
        dsimp only at e1 e2 e3
        exact W.zret hx hb hr rfl (fun t ht hW => ⟨⟨_, (), rfl, e1, by show va_P D vwCl _ t.heap; rw [ht, ← e2, ← e3]; exact hP⟩, hS.F ht⟩) hS.2.2 dX5_joins_124
      · refine lv_aload_n hx hb dX5_joins_36 rfl (lv_at hl 0 rfl) ?_
        refine va_get hx hb hts hi_X5_joins_X5 hown hK hP 0 (m_o99 cI cZ ad F G) rfl 11 (by decide) (hts _ (List.mem_of_getElem? (i := 4) rfl)) (fun _ h9 => h9) rfl dX5_joins_37 ?_
        refine lv_aload_n hx hb dX5_joins_40 rfl (lv_at hl 0 rfl) ?_
        refine va_get hx hb hts hi_X5_joins_X5 hown hK hP 0 (m_o99 cI cZ ad F G) rfl 29 (by decide) (hts _ (List.mem_of_getElem? (i := 1) rfl)) (fun _ h9 => h9) rfl dX5_joins_41 ?_
        refine lv_iload_n hx hb dX5_joins_44 rfl (lv_at hl 1 rfl) ?_
        refine q_ld hx hb hK hP 15 0 (m_a29 cI cZ ad F G) rfl dX5_joins_45 h (fun v4 h => ?_)
        refine lv_dup2_11 hx hb dX5_joins_46 rfl rfl ?_
        refine q_ld hx hb hK hP 7 0 (m_a11 cI cZ ad F G) rfl dX5_joins_47 h (fun v5 h => ?_)
        refine lv_iconst (v := 1) hx hb dX5_joins_48 (by decide) ?_
        refine lv_iadd hx hb dX5_joins_49 ?_
        refine q_st hx hb hK hP (mW_D hDD _ _) hS 7 0 11 (fun z => mW cI cZ ad F z) (m_a11 cI cZ ad F G) rfl (m_g11 cI cZ ad F G _) dX5_joins_50 h (fun G6 H locs h hP hS => ?_)
        refine lv_aload_n hx hb dX5_joins_51 rfl (lv_at hl 0 rfl) ?_
        refine va_get hx hb hts hi_X5_joins_X5 hown hK hP 0 (m_o99 cI cZ ad F G6) rfl 11 (by decide) (hts _ (List.mem_of_getElem? (i := 4) rfl)) (fun _ h9 => h9) rfl dX5_joins_52 ?_
        refine lv_aload_n hx hb dX5_joins_55 rfl (lv_at hl 0 rfl) ?_
        refine va_get hx hb hts hi_X5_joins_X5 hown hK hP 0 (m_o99 cI cZ ad F G6) rfl 30 (by decide) (hts _ (List.mem_of_getElem? (i := 2) rfl)) (fun _ h9 => h9) rfl dX5_joins_56 ?_
        refine lv_iload_n hx hb dX5_joins_59 rfl (lv_at hl 1 rfl) ?_
        refine q_ld hx hb hK hP 16 0 (m_a30 cI cZ ad F G6) rfl dX5_joins_60 h (fun v7 h => ?_)
        refine lv_dup2_11 hx hb dX5_joins_61 rfl rfl ?_
        refine q_ld hx hb hK hP 7 0 (m_a11 cI cZ ad F G6) rfl dX5_joins_62 h (fun v8 h => ?_)
        refine lv_iconst (v := 1) hx hb dX5_joins_63 (by decide) ?_
        refine lv_iadd hx hb dX5_joins_64 ?_
        refine q_st hx hb hK hP (mW_D hDD _ _) hS 7 0 11 (fun z => mW cI cZ ad F z) (m_a11 cI cZ ad F G6) rfl (m_g11 cI cZ ad F G6 _) dX5_joins_65 h (fun G9 H locs h hP hS => ?_)
        refine lv_aload_n hx hb dX5_joins_66 rfl (lv_at hl 0 rfl) ?_
        refine va_get hx hb hts hi_X5_joins_X5 hown hK hP 0 (m_o99 cI cZ ad F G9) rfl 22 (by decide) (hts _ (List.mem_of_getElem? (i := 5) rfl)) (fun _ h9 => h9) rfl dX5_joins_67 ?_
        refine lv_bipush (v := 6) hx hb dX5_joins_70 (by decide) ?_
        refine lv_aload_n hx hb dX5_joins_72 rfl (lv_at hl 0 rfl) ?_
        refine va_get hx hb hts hi_X5_joins_X5 hown hK hP 0 (m_o99 cI cZ ad F G9) rfl 18 (by decide) (hts _ (List.mem_of_getElem? (i := 6) rfl)) (fun _ h9 => h9) rfl dX5_joins_73 ?_
        refine lv_imul hx hb dX5_joins_76 ?_
        refine lv_iload_n hx hb dX5_joins_77 rfl (lv_at hl 1 rfl) ?_
        refine lv_iadd hx hb dX5_joins_78 ?_
        refine lv_aload_n hx hb dX5_joins_79 rfl (lv_at hl 0 rfl) ?_
        refine va_get hx hb hts hi_X5_joins_X5 hown hK hP 0 (m_o99 cI cZ ad F G9) rfl 30 (by decide) (hts _ (List.mem_of_getElem? (i := 2) rfl)) (fun _ h9 => h9) rfl dX5_joins_80 ?_
        refine lv_iload_n hx hb dX5_joins_83 rfl (lv_at hl 1 rfl) ?_
        refine q_ld hx hb hK hP 16 0 (m_a30 cI cZ ad F G9) rfl dX5_joins_84 h (fun v10 h => ?_)
        refine q_st hx hb hK hP (mW_D hDD _ _) hS 13 0 22 (fun z => mW cI cZ ad F z) (m_a22 cI cZ ad F G9) rfl (m_g22 cI cZ ad F G9 _) dX5_joins_85 h (fun G11 H locs h hP hS => ?_)
        refine q_iinc (j := 1) (d := (1 : Int32)) (lv2 := fun v12 => [(1, .int (v12)), (0, .ref (ad 99))]) hx hb dX5_joins_86 hl rfl (by decide) (by decide) (fun _ => rfl) h (fun v12 ls hl h => ?_)
        refine lv_goto (tgt := 28) hx hb dX5_joins_89 (by decide) ?_
        exact ih28 F G11 v12 _ _ hP hS _ (lv_sub hl [1, 0] rfl) h
  refine lv_aload_n hx hb dX5_joins_0 rfl (lv_at hl 0 rfl) ?_
  refine lv_aload_n hx hb dX5_joins_1 rfl (lv_at hl 0 rfl) ?_
  refine va_get hx hb hts hi_X5_joins_X5 hown hK hP 0 (m_o99 cI cZ ad F G) rfl 29 (by decide) (hts _ (List.mem_of_getElem? (i := 1) rfl)) (fun _ h9 => h9) rfl dX5_joins_2 ?_
  refine lv_iconst (v := 0) hx hb dX5_joins_5 (by decide) ?_
  obtain ⟨⟨v13, F14, G15⟩, hc16, h⟩ := q_some h
  refine q_ci (va_runV (C := RX5) (As := [.ref (ad 29), .int ((0 : Int32))]) (rest := []) ⟨hx, hb, hml, hown, hts⟩ (mt_X5_finds_29 l D cI cZ ad F G (0 : Int32) v13 F14 G15 hDD hc16) (cwV 2 hts gX5_joins_X5_finds rfl rfl rfl (by decide +kernel) ⟨Nat.le_of_ble_eq_true rfl, Nat.le_of_ble_eq_true rfl⟩) ⟨mR_b, va_recv hK hP (ci := 5) (q0 := 0) rfl rfl, (mR_p hP hK hN).2⟩ rfl rfl hl.1 rfl (lv_room (Nat.le_of_ble_eq_true rfl)) dX5_joins_6 ⟨Nat.le_of_ble_eq_true rfl, Nat.le_of_ble_eq_true rfl⟩) hS (fun H locs hP hS => ?_)
  refine q_if_eq (tgt := 24) hx hb dX5_joins_9 (by decide) h (fun h => ?_) (fun h => ?_)
  · refine lv_iconst (v := 0) hx hb dX5_joins_24 (by decide) ?_
    have e1 := congrArg Prod.fst (Option.some.inj h)
    have e2 := congrArg (fun z => z.2.1) (Option.some.inj h)
    have e3 := congrArg (fun z => z.2.2) (Option.some.inj h)
    dsimp only at e1 e2 e3
    exact W.zret hx hb hr rfl (fun t ht hW => ⟨⟨_, (), rfl, e1, by show va_P D vwCl _ t.heap; rw [ht, ← e2, ← e3]; exact hP⟩, hS.F ht⟩) hS.2.2 dX5_joins_25
  · refine lv_aload_n hx hb dX5_joins_12 rfl (lv_at hl 0 rfl) ?_
    refine lv_aload_n hx hb dX5_joins_13 rfl (lv_at hl 0 rfl) ?_
    refine va_get hx hb hts hi_X5_joins_X5 hown hK hP 0 (m_o99 cI cZ ad F14 G15) rfl 30 (by decide) (hts _ (List.mem_of_getElem? (i := 2) rfl)) (fun _ h9 => h9) rfl dX5_joins_14 ?_
    refine lv_iconst (v := 1) hx hb dX5_joins_17 (by decide) ?_
    obtain ⟨⟨v17, F18, G19⟩, hc20, h⟩ := q_some h
    refine q_ci (va_runV (C := RX5) (As := [.ref (ad 30), .int ((1 : Int32))]) (rest := []) ⟨hx, hb, hml, hown, hts⟩ (mt_X5_finds_30 l D cI cZ ad F14 G15 (1 : Int32) v17 F18 G19 hDD hc20) (cwV 2 hts gX5_joins_X5_finds rfl rfl rfl (by decide +kernel) ⟨Nat.le_of_ble_eq_true rfl, Nat.le_of_ble_eq_true rfl⟩) ⟨mR_b, va_recv hK hP (ci := 5) (q0 := 0) rfl rfl, (mR_p hP hK hN).2⟩ rfl rfl hl.1 rfl (lv_room (Nat.le_of_ble_eq_true rfl)) dX5_joins_18 ⟨Nat.le_of_ble_eq_true rfl, Nat.le_of_ble_eq_true rfl⟩) hS (fun H locs hP hS => ?_)
    refine q_if_ne (tgt := 26) hx hb dX5_joins_21 (by decide) h (fun h => ?_) (fun h => ?_)
    · refine lv_iconst (v := 0) hx hb dX5_joins_26 (by decide) ?_
      refine q_nm h (fun v21 h => ?_)
      refine lv_istore_n (lv' := [(1, .int (v21)), (0, .ref (ad 99))]) hx hb dX5_joins_27 rfl hl (by decide) rfl (fun ls hl => ?_)
      exact j28 1000 F18 G19 v21 _ _ hP hS _ (lv_sub hl [1, 0] rfl) h
    · refine lv_iconst (v := 0) hx hb dX5_joins_24 (by decide) ?_
      have e1 := congrArg Prod.fst (Option.some.inj h)
      have e2 := congrArg (fun z => z.2.1) (Option.some.inj h)
      have e3 := congrArg (fun z => z.2.2) (Option.some.inj h)
      dsimp only at e1 e2 e3
      exact W.zret hx hb hr rfl (fun t ht hW => ⟨⟨_, (), rfl, e1, by show va_P D vwCl _ t.heap; rw [ht, ← e2, ← e3]; exact hP⟩, hS.F ht⟩) hS.2.2 dX5_joins_25
theorem hi_X5_fails_X5 : ∀ w ∈ u_ws RX5 TX5 48, w ∈ wsX5_fails := fun w h => (List.mem_cons_of_mem _ (List.mem_append_right _ h))
set_option maxHeartbeats 4000000 in
set_option maxRecDepth 100000 in
theorem mt_X5_fails (l : Launch) (D : va_G) (cI cZ : ClassId) (ad : Nat → Nat) (F : Nat → Int32) (G : Nat → Nat → Int32) (x1 : Int32) (x2 : Int32) (rv : Int32) (Fz : Nat → Int32) (Gz : Nat → Nat → Int32) (hDD : va_D (fun _ => True) (mW cI cZ ad (fun _ => 0) (fun _ _ => 0))) (h : f_X5_fails F G x1 x2 = some (rv, Fz, Gz)) : Met l yX5_fails wsX5_fails ({ frames := 0, cells := 0, slots := 0, locals := 0 } : Room) (va_Pc [.ref (ad 99), .int x1, .int x2] (mR D cI cZ ad F G)) (va_Qi (fun z (_ : Unit) => z = rv) (fun _ t => va_P D vwCl (mW cI cZ ad Fz Gz) t.heap) (mA cI cZ ad)) 0 0 (mA cI cZ ad) := by
  refine Met.ofW (cc := cX5_fails) (maxL := 3) (ret := (some .boolean)) (by decide) rfl ?_
  intro p e s m args below meth c s₁ B hml hv
  obtain ⟨rfl, hP, hK, hN⟩ := hv
  have hx := B.exec
  have hb := B.bytes
  have hr := B.returns
  have hts := atoms_spec (ws := wsX5_fails) B.pre
  have hown : s.vm.findClass RX5 = some m.cls := findClass_of_methodNamed B.named
  have hlocks := B.notSynchronized
  have hS : va_S (mA cI cZ ad) s.heap s.heap [] := va_S.rf
  have hl := lv_entry ([.ref (ad 99), .int x1, .int x2]) (n := 3) (Nat.le_of_ble_eq_true rfl)
  rw [lg_entry_eq]
  generalize (lg_sl ([.ref (ad 99), .int x1, .int x2]) ++ List.replicate (3 - (lg_sl ([.ref (ad 99), .int x1, .int x2])).length) Slot.unset).toArray = ls at hl ⊢
  have hl : lv_has ls 3 [(0, .ref (ad 99)), (1, .int (x1)), (2, .int (x2))] := hl
  refine lv_aload_n hx hb dX5_fails_0 rfl (lv_at hl 0 rfl) ?_
  refine lv_iload_n hx hb dX5_fails_1 rfl (lv_at hl 1 rfl) ?_
  refine q_put (ty := .int) hx hb hts hi_X5_fails_X5 tyX5 tyX5_ok nmX5 hown hK hP (mW_D hDD _ _) hS 0 16 (fun z => mW cI cZ ad z G) (m_o99 cI cZ ad F G) rfl 16 (by decide) (hts _ (List.mem_of_getElem? (i := 1) rfl)) (fun _ h9 => h9) rfl (by decide +kernel) rfl rfl (Nat.le_of_ble_eq_true rfl) (m_f16 cI cZ ad F G _) dX5_fails_2 h (fun F1 H locs h hP hS => ?_)
  refine lv_aload_n hx hb dX5_fails_5 rfl (lv_at hl 0 rfl) ?_
  refine lv_iload_n hx hb dX5_fails_6 rfl (lv_at hl 2 rfl) ?_
  refine q_put (ty := .int) hx hb hts hi_X5_fails_X5 tyX5 tyX5_ok nmX5 hown hK hP (mW_D hDD _ _) hS 0 17 (fun z => mW cI cZ ad z G) (m_o99 cI cZ ad F1 G) rfl 17 (by decide) (hts _ (List.mem_of_getElem? (i := 2) rfl)) (fun _ h9 => h9) rfl (by decide +kernel) rfl rfl (Nat.le_of_ble_eq_true rfl) (m_f17 cI cZ ad F1 G _) dX5_fails_7 h (fun F2 H locs h hP hS => ?_)
  refine lv_iconst (v := 0) hx hb dX5_fails_10 (by decide) ?_
  have e1 := congrArg Prod.fst (Option.some.inj h)
  have e2 := congrArg (fun z => z.2.1) (Option.some.inj h)
  have e3 := congrArg (fun z => z.2.2) (Option.some.inj h)
  dsimp only at e1 e2 e3
  exact W.zret hx hb hr rfl (fun t ht hW => ⟨⟨_, (), rfl, e1, by show va_P D vwCl _ t.heap; rw [ht, ← e2, ← e3]; exact hP⟩, hS.F ht⟩) hS.2.2 dX5_fails_11
theorem hi_X5_picks_X5 : ∀ w ∈ u_ws RX5 TX5 48, w ∈ wsX5_picks := fun w h => (List.mem_cons_of_mem _ (List.mem_append_right _ h))
set_option maxHeartbeats 4000000 in
set_option maxRecDepth 100000 in
theorem mt_X5_picks (l : Launch) (D : va_G) (cI cZ : ClassId) (ad : Nat → Nat) (F : Nat → Int32) (G : Nat → Nat → Int32) (x1 : Int32) (x2 : Int32) (x3 : Int32) (x4 : Int32) (rv : Int32) (Fz : Nat → Int32) (Gz : Nat → Nat → Int32) (hDD : va_D (fun _ => True) (mW cI cZ ad (fun _ => 0) (fun _ _ => 0))) (h : f_X5_picks F G x1 x2 x3 x4 = some (rv, Fz, Gz)) : Met l yX5_picks wsX5_picks ({ frames := 3, cells := 0, slots := 0, locals := 71 } : Room) (va_Pc [.ref (ad 99), .int x1, .int x2, .int x3, .int x4] (mR D cI cZ ad F G)) (va_Qi (fun z (_ : Unit) => z = rv) (fun _ t => va_P D vwCl (mW cI cZ ad Fz Gz) t.heap) (mA cI cZ ad)) 0 0 (mA cI cZ ad) := by
  refine Met.ofW (cc := cX5_picks) (maxL := 8) (ret := (some .boolean)) (by decide) rfl ?_
  intro p e s m args below meth c s₁ B hml hv
  obtain ⟨rfl, hP, hK, hN⟩ := hv
  have hx := B.exec
  have hb := B.bytes
  have hr := B.returns
  have hts := atoms_spec (ws := wsX5_picks) B.pre
  have hown : s.vm.findClass RX5 = some m.cls := findClass_of_methodNamed B.named
  have hlocks := B.notSynchronized
  have hS : va_S (mA cI cZ ad) s.heap s.heap [] := va_S.rf
  have hl := lv_entry ([.ref (ad 99), .int x1, .int x2, .int x3, .int x4]) (n := 8) (Nat.le_of_ble_eq_true rfl)
  rw [lg_entry_eq]
  generalize (lg_sl ([.ref (ad 99), .int x1, .int x2, .int x3, .int x4]) ++ List.replicate (8 - (lg_sl ([.ref (ad 99), .int x1, .int x2, .int x3, .int x4])).length) Slot.unset).toArray = ls at hl ⊢
  have hl : lv_has ls 8 [(0, .ref (ad 99)), (1, .int (x1)), (2, .int (x2)), (3, .int (x3)), (4, .int (x4))] := hl
  have j419 : ∀ (F : Nat → Int32) (G : Nat → Nat → Int32) (x6 : Int32) (H : Heap) (locs : List Loc) , va_P D vwCl (mW cI cZ ad F G) H → va_S (mA cI cZ ad) s.heap H locs → ∀ ls : Array Slot, lv_has ls 8 [(0, .ref (ad 99)), (6, .int (x6))] → f_X5_picks_B419 x1 x2 x3 x4 F G x6 = some (rv, Fz, Gz) → W p l e (headSpec wsX5_picks ({ frames := 3, cells := 0, slots := 0, locals := 71 } : Room)).room s m (List.toArray ([.ref (ad 99), .int x1, .int x2, .int x3, .int x4] : List Value)) below meth c H locs 0 0 (MQ below (va_Qi (fun z (_ : Unit) => z = rv) (fun _ t => va_P D vwCl (mW cI cZ ad Fz Gz) t.heap) (mA cI cZ ad)) (List.toArray ([.ref (ad 99), .int x1, .int x2, .int x3, .int x4] : List Value)) s 0 0 (mA cI cZ ad)) (F0 m 419 ls []) := by
    intro F G x6 H locs hP hS ls hl h
    refine lv_aload_n hx hb dX5_picks_419 rfl (lv_at hl 0 rfl) ?_
    refine lv_dup hx hb dX5_picks_420 rfl ?_
    refine va_get hx hb hts hi_X5_picks_X5 hown hK hP 0 (m_o99 cI cZ ad F G) rfl 25 (by decide) (hts _ (List.mem_of_getElem? (i := 6) rfl)) (fun _ h9 => h9) rfl dX5_picks_421 ?_
    refine lv_iconst (v := 1) hx hb dX5_picks_424 (by decide) ?_
    refine lv_iadd hx hb dX5_picks_425 ?_
    refine q_put (ty := .int) hx hb hts hi_X5_picks_X5 tyX5 tyX5_ok nmX5 hown hK hP (mW_D hDD _ _) hS 0 25 (fun z => mW cI cZ ad z G) (m_o99 cI cZ ad F G) rfl 25 (by decide) (hts _ (List.mem_of_getElem? (i := 6) rfl)) (fun _ h9 => h9) rfl (by decide +kernel) rfl rfl (Nat.le_of_ble_eq_true rfl) (m_f25 cI cZ ad F G _) dX5_picks_426 h (fun F1 H locs h hP hS => ?_)
    refine lv_aload_n hx hb dX5_picks_429 rfl (lv_at hl 0 rfl) ?_
    refine lv_dup hx hb dX5_picks_430 rfl ?_
    refine va_get hx hb hts hi_X5_picks_X5 hown hK hP 0 (m_o99 cI cZ ad F1 G) rfl 8 (by decide) (hts _ (List.mem_of_getElem? (i := 3) rfl)) (fun _ h9 => h9) rfl dX5_picks_431 ?_
    refine lv_iconst (v := 1) hx hb dX5_picks_434 (by decide) ?_
    refine lv_iadd hx hb dX5_picks_435 ?_
    refine q_put (ty := .int) hx hb hts hi_X5_picks_X5 tyX5 tyX5_ok nmX5 hown hK hP (mW_D hDD _ _) hS 0 8 (fun z => mW cI cZ ad z G) (m_o99 cI cZ ad F1 G) rfl 8 (by decide) (hts _ (List.mem_of_getElem? (i := 3) rfl)) (fun _ h9 => h9) rfl (by decide +kernel) rfl rfl (Nat.le_of_ble_eq_true rfl) (m_f8 cI cZ ad F1 G _) dX5_picks_436 h (fun F2 H locs h hP hS => ?_)
    refine lv_aload_n hx hb dX5_picks_439 rfl (lv_at hl 0 rfl) ?_
    refine lv_dup hx hb dX5_picks_440 rfl ?_
    refine va_get hx hb hts hi_X5_picks_X5 hown hK hP 0 (m_o99 cI cZ ad F2 G) rfl 20 (by decide) (hts _ (List.mem_of_getElem? (i := 11) rfl)) (fun _ h9 => h9) rfl dX5_picks_441 ?_
    refine lv_iload hx hb dX5_picks_444 (lv_at hl 1 rfl) ?_
    refine lv_isub hx hb dX5_picks_446 ?_
    refine q_put (ty := .int) hx hb hts hi_X5_picks_X5 tyX5 tyX5_ok nmX5 hown hK hP (mW_D hDD _ _) hS 0 20 (fun z => mW cI cZ ad z G) (m_o99 cI cZ ad F2 G) rfl 20 (by decide) (hts _ (List.mem_of_getElem? (i := 11) rfl)) (fun _ h9 => h9) rfl (by decide +kernel) rfl rfl (Nat.le_of_ble_eq_true rfl) (m_f20 cI cZ ad F2 G _) dX5_picks_447 h (fun F3 H locs h hP hS => ?_)
    refine lv_aload_n hx hb dX5_picks_450 rfl (lv_at hl 0 rfl) ?_
    refine lv_dup hx hb dX5_picks_451 rfl ?_
    refine va_get hx hb hts hi_X5_picks_X5 hown hK hP 0 (m_o99 cI cZ ad F3 G) rfl 19 (by decide) (hts _ (List.mem_of_getElem? (i := 21) rfl)) (fun _ h9 => h9) rfl dX5_picks_452 ?_
    refine lv_iload hx hb dX5_picks_455 (lv_at hl 1 rfl) ?_
    refine lv_iadd hx hb dX5_picks_457 ?_
    refine q_put (ty := .int) hx hb hts hi_X5_picks_X5 tyX5 tyX5_ok nmX5 hown hK hP (mW_D hDD _ _) hS 0 19 (fun z => mW cI cZ ad z G) (m_o99 cI cZ ad F3 G) rfl 19 (by decide) (hts _ (List.mem_of_getElem? (i := 21) rfl)) (fun _ h9 => h9) rfl (by decide +kernel) rfl rfl (Nat.le_of_ble_eq_true rfl) (m_f19 cI cZ ad F3 G _) dX5_picks_458 h (fun F4 H locs h hP hS => ?_)
    refine lv_iconst (v := 1) hx hb dX5_picks_461 (by decide) ?_
    have e1 := congrArg Prod.fst (Option.some.inj h)
    have e2 := congrArg (fun z => z.2.1) (Option.some.inj h)
    have e3 := congrArg (fun z => z.2.2) (Option.some.inj h)
    dsimp only at e1 e2 e3
    exact W.zret hx hb hr rfl (fun t ht hW => ⟨⟨_, (), rfl, e1, by show va_P D vwCl _ t.heap; rw [ht, ← e2, ← e3]; exact hP⟩, hS.F ht⟩) hS.2.2 dX5_picks_462
  have j362 : ∀ n362 : Nat, ∀ (F : Nat → Int32) (G : Nat → Nat → Int32) (x5 : Int32) (x6 : Int32) (x7 : Int32) (H : Heap) (locs : List Loc) , va_P D vwCl (mW cI cZ ad F G) H → va_S (mA cI cZ ad) s.heap H locs → ∀ ls : Array Slot, lv_has ls 8 [(0, .ref (ad 99)), (5, .int (x5)), (6, .int (x6)), (7, .int (x7))] → f_X5_picks_L362 x1 x2 x3 x4 n362 F G x5 x6 x7 = some (rv, Fz, Gz) → W p l e (headSpec wsX5_picks ({ frames := 3, cells := 0, slots := 0, locals := 71 } : Room)).room s m (List.toArray ([.ref (ad 99), .int x1, .int x2, .int x3, .int x4] : List Value)) below meth c H locs 0 0 (MQ below (va_Qi (fun z (_ : Unit) => z = rv) (fun _ t => va_P D vwCl (mW cI cZ ad Fz Gz) t.heap) (mA cI cZ ad)) (List.toArray ([.ref (ad 99), .int x1, .int x2, .int x3, .int x4] : List Value)) s 0 0 (mA cI cZ ad)) (F0 m 362 ls []) := by
    intro n362
    induction n362 with
    | zero =>
      intro F G x5 x6 x7 H locs hP hS ls hl h
      cases h
    | succ n362 ih362 =>
      intro F G x5 x6 x7 H locs hP hS ls hl h
      replace h : f_X5_picks_L362_b (f_X5_picks_L362 x1 x2 x3 x4 n362) x1 x2 x3 x4 F G x5 x6 x7 = some (rv, Fz, Gz) := h
      refine lv_iload hx hb dX5_picks_362 (lv_at hl 3 rfl) ?_
      refine lv_aload_n hx hb dX5_picks_364 rfl (lv_at hl 0 rfl) ?_
      refine va_get hx hb hts hi_X5_picks_X5 hown hK hP 0 (m_o99 cI cZ ad F G) rfl 27 (by decide) (hts _ (List.mem_of_getElem? (i := 1) rfl)) (fun _ h9 => h9) rfl dX5_picks_365 ?_
      refine q_icmp_ge (tgt := 393) hx hb dX5_picks_368 (by decide) h (fun h => ?_) (fun h => ?_)
      · refine lv_aload_n hx hb dX5_picks_393 rfl (lv_at hl 0 rfl) ?_
        refine va_get hx hb hts hi_X5_picks_X5 hown hK hP 0 (m_o99 cI cZ ad F G) rfl 15 (by decide) (hts _ (List.mem_of_getElem? (i := 19) rfl)) (fun _ h9 => h9) rfl dX5_picks_394 ?_
        refine lv_iload hx hb dX5_picks_397 (lv_at hl 1 rfl) ?_
        refine lv_aload_n hx hb dX5_picks_399 rfl (lv_at hl 0 rfl) ?_
        refine va_get hx hb hts hi_X5_picks_X5 hown hK hP 0 (m_o99 cI cZ ad F G) rfl 8 (by decide) (hts _ (List.mem_of_getElem? (i := 3) rfl)) (fun _ h9 => h9) rfl dX5_picks_400 ?_
        refine q_st hx hb hK hP (mW_D hDD _ _) hS 11 0 15 (fun z => mW cI cZ ad F z) (m_a15 cI cZ ad F G) rfl (m_g15 cI cZ ad F G _) dX5_picks_403 h (fun G5 H locs h hP hS => ?_)
        refine lv_aload_n hx hb dX5_picks_404 rfl (lv_at hl 0 rfl) ?_
        refine va_get hx hb hts hi_X5_picks_X5 hown hK hP 0 (m_o99 cI cZ ad F G5) rfl 25 (by decide) (hts _ (List.mem_of_getElem? (i := 6) rfl)) (fun _ h9 => h9) rfl dX5_picks_405 ?_
        refine q_if_ne (tgt := 419) hx hb dX5_picks_408 (by decide) h (fun h => ?_) (fun h => ?_)
        · exact j419 F G5 x6 _ _ hP hS _ (lv_sub hl [0, 2] rfl) h
        · refine lv_aload_n hx hb dX5_picks_411 rfl (lv_at hl 0 rfl) ?_
          refine lv_aload_n hx hb dX5_picks_412 rfl (lv_at hl 0 rfl) ?_
          refine va_get hx hb hts hi_X5_picks_X5 hown hK hP 0 (m_o99 cI cZ ad F G5) rfl 8 (by decide) (hts _ (List.mem_of_getElem? (i := 3) rfl)) (fun _ h9 => h9) rfl dX5_picks_413 ?_
          refine q_put (ty := .int) hx hb hts hi_X5_picks_X5 tyX5 tyX5_ok nmX5 hown hK hP (mW_D hDD _ _) hS 0 23 (fun z => mW cI cZ ad z G5) (m_o99 cI cZ ad F G5) rfl 23 (by decide) (hts _ (List.mem_of_getElem? (i := 20) rfl)) (fun _ h9 => h9) rfl (by decide +kernel) rfl rfl (Nat.le_of_ble_eq_true rfl) (m_f23 cI cZ ad F G5 _) dX5_picks_416 h (fun F6 H locs h hP hS => ?_)
          exact j419 F6 G5 x6 _ _ hP hS _ (lv_sub hl [0, 2] rfl) h
      · refine lv_aload_n hx hb dX5_picks_371 rfl (lv_at hl 0 rfl) ?_
        refine va_get hx hb hts hi_X5_picks_X5 hown hK hP 0 (m_o99 cI cZ ad F G) rfl 11 (by decide) (hts _ (List.mem_of_getElem? (i := 13) rfl)) (fun _ h9 => h9) rfl dX5_picks_372 ?_
        refine lv_aload_n hx hb dX5_picks_375 rfl (lv_at hl 0 rfl) ?_
        refine va_get hx hb hts hi_X5_picks_X5 hown hK hP 0 (m_o99 cI cZ ad F G) rfl 28 (by decide) (hts _ (List.mem_of_getElem? (i := 18) rfl)) (fun _ h9 => h9) rfl dX5_picks_376 ?_
        refine lv_iload hx hb dX5_picks_379 (lv_at hl 3 rfl) ?_
        refine q_ld hx hb hK hP 14 0 (m_a28 cI cZ ad F G) rfl dX5_picks_381 h (fun v7 h => ?_)
        refine lv_dup2_11 hx hb dX5_picks_382 rfl rfl ?_
        refine q_ld hx hb hK hP 7 0 (m_a11 cI cZ ad F G) rfl dX5_picks_383 h (fun v8 h => ?_)
        refine lv_iconst (v := 1) hx hb dX5_picks_384 (by decide) ?_
        refine lv_iadd hx hb dX5_picks_385 ?_
        refine q_st hx hb hK hP (mW_D hDD _ _) hS 7 0 11 (fun z => mW cI cZ ad F z) (m_a11 cI cZ ad F G) rfl (m_g11 cI cZ ad F G _) dX5_picks_386 h (fun G9 H locs h hP hS => ?_)
        refine q_iinc (j := 3) (d := (1 : Int32)) (lv2 := fun v10 => [(7, .int (v10)), (0, .ref (ad 99)), (5, .int (x5)), (6, .int (x6))]) hx hb dX5_picks_387 hl rfl (by decide) (by decide) (fun _ => rfl) h (fun v10 ls hl h => ?_)
        refine lv_goto (tgt := 362) hx hb dX5_picks_390 (by decide) ?_
        exact ih362 F G9 x5 x6 v10 _ _ hP hS _ (lv_sub hl [1, 2, 3, 0] rfl) h
  have j290 : ∀ (F : Nat → Int32) (G : Nat → Nat → Int32) (x5 : Int32) (x6 : Int32) (H : Heap) (locs : List Loc) , va_P D vwCl (mW cI cZ ad F G) H → va_S (mA cI cZ ad) s.heap H locs → ∀ ls : Array Slot, lv_has ls 8 [(0, .ref (ad 99)), (5, .int (x5)), (6, .int (x6))] → f_X5_picks_B290 x1 x2 x3 x4 F G x5 x6 = some (rv, Fz, Gz) → W p l e (headSpec wsX5_picks ({ frames := 3, cells := 0, slots := 0, locals := 71 } : Room)).room s m (List.toArray ([.ref (ad 99), .int x1, .int x2, .int x3, .int x4] : List Value)) below meth c H locs 0 0 (MQ below (va_Qi (fun z (_ : Unit) => z = rv) (fun _ t => va_P D vwCl (mW cI cZ ad Fz Gz) t.heap) (mA cI cZ ad)) (List.toArray ([.ref (ad 99), .int x1, .int x2, .int x3, .int x4] : List Value)) s 0 0 (mA cI cZ ad)) (F0 m 290 ls []) := by
    intro F G x5 x6 H locs hP hS ls hl h
    refine lv_aload_n hx hb dX5_picks_290 rfl (lv_at hl 0 rfl) ?_
    refine lv_iload hx hb dX5_picks_291 (lv_at hl 1 rfl) ?_
    obtain ⟨v11, hc12, h⟩ := q_some h
    refine q_cs (W.runV (C := RX5) (As := [.int (x5)]) (rest := []) ⟨hx, hb, hml, hown, hts⟩ (mt_X5_hasRoom l D cI cZ ad F G x5 v11 hc12) (cwV 1 hts gX5_picks_X5_hasRoom rfl rfl rfl (by decide +kernel) ⟨Nat.le_of_ble_eq_true rfl, Nat.le_of_ble_eq_true rfl⟩) ⟨mR_b, va_recv hK hP (ci := 5) (q0 := 0) rfl rfl, (mR_p hP hK hN).2⟩ rfl rfl hl.1 rfl (lv_room (Nat.le_of_ble_eq_true rfl)) dX5_picks_293 ⟨Nat.le_of_ble_eq_true rfl, Nat.le_of_ble_eq_true rfl⟩) ?_
    refine q_if_ne (tgt := 307) hx hb dX5_picks_296 (by decide) h (fun h => ?_) (fun h => ?_)
    · refine lv_aload_n hx hb dX5_picks_307 rfl (lv_at hl 0 rfl) ?_
      refine va_get hx hb hts hi_X5_picks_X5 hown hK hP 0 (m_o99 cI cZ ad F G) rfl 11 (by decide) (hts _ (List.mem_of_getElem? (i := 13) rfl)) (fun _ h9 => h9) rfl dX5_picks_308 ?_
      refine lv_aload_n hx hb dX5_picks_311 rfl (lv_at hl 0 rfl) ?_
      refine va_get hx hb hts hi_X5_picks_X5 hown hK hP 0 (m_o99 cI cZ ad F G) rfl 8 (by decide) (hts _ (List.mem_of_getElem? (i := 3) rfl)) (fun _ h9 => h9) rfl dX5_picks_312 ?_
      refine lv_iconst (v := 0) hx hb dX5_picks_315 (by decide) ?_
      refine q_st hx hb hK hP (mW_D hDD _ _) hS 7 0 11 (fun z => mW cI cZ ad F z) (m_a11 cI cZ ad F G) rfl (m_g11 cI cZ ad F G _) dX5_picks_316 h (fun G13 H locs h hP hS => ?_)
      refine lv_aload_n hx hb dX5_picks_317 rfl (lv_at hl 0 rfl) ?_
      refine va_get hx hb hts hi_X5_picks_X5 hown hK hP 0 (m_o99 cI cZ ad F G13) rfl 14 (by decide) (hts _ (List.mem_of_getElem? (i := 14) rfl)) (fun _ h9 => h9) rfl dX5_picks_318 ?_
      refine lv_aload_n hx hb dX5_picks_321 rfl (lv_at hl 0 rfl) ?_
      refine va_get hx hb hts hi_X5_picks_X5 hown hK hP 0 (m_o99 cI cZ ad F G13) rfl 8 (by decide) (hts _ (List.mem_of_getElem? (i := 3) rfl)) (fun _ h9 => h9) rfl dX5_picks_322 ?_
      refine lv_aload_n hx hb dX5_picks_325 rfl (lv_at hl 0 rfl) ?_
      refine va_get hx hb hts hi_X5_picks_X5 hown hK hP 0 (m_o99 cI cZ ad F G13) rfl 0 (by decide) (hts _ (List.mem_of_getElem? (i := 15) rfl)) (fun _ h9 => h9) rfl dX5_picks_326 ?_
      refine lv_iload hx hb dX5_picks_329 (lv_at hl 1 rfl) ?_
      refine q_ld hx hb hK hP 1 0 (m_a0 cI cZ ad F G13) rfl dX5_picks_331 h (fun v14 h => ?_)
      refine q_st hx hb hK hP (mW_D hDD _ _) hS 10 0 14 (fun z => mW cI cZ ad F z) (m_a14 cI cZ ad F G13) rfl (m_g14 cI cZ ad F G13 _) dX5_picks_332 h (fun G15 H locs h hP hS => ?_)
      refine lv_aload_n hx hb dX5_picks_333 rfl (lv_at hl 0 rfl) ?_
      refine va_get hx hb hts hi_X5_picks_X5 hown hK hP 0 (m_o99 cI cZ ad F G15) rfl 9 (by decide) (hts _ (List.mem_of_getElem? (i := 16) rfl)) (fun _ h9 => h9) rfl dX5_picks_334 ?_
      refine lv_aload_n hx hb dX5_picks_337 rfl (lv_at hl 0 rfl) ?_
      refine va_get hx hb hts hi_X5_picks_X5 hown hK hP 0 (m_o99 cI cZ ad F G15) rfl 8 (by decide) (hts _ (List.mem_of_getElem? (i := 3) rfl)) (fun _ h9 => h9) rfl dX5_picks_338 ?_
      refine lv_iload hx hb dX5_picks_341 (lv_at hl 1 rfl) ?_
      refine q_st hx hb hK hP (mW_D hDD _ _) hS 5 0 9 (fun z => mW cI cZ ad F z) (m_a9 cI cZ ad F G15) rfl (m_g9 cI cZ ad F G15 _) dX5_picks_343 h (fun G16 H locs h hP hS => ?_)
      refine lv_aload_n hx hb dX5_picks_344 rfl (lv_at hl 0 rfl) ?_
      refine va_get hx hb hts hi_X5_picks_X5 hown hK hP 0 (m_o99 cI cZ ad F G16) rfl 10 (by decide) (hts _ (List.mem_of_getElem? (i := 17) rfl)) (fun _ h9 => h9) rfl dX5_picks_345 ?_
      refine lv_aload_n hx hb dX5_picks_348 rfl (lv_at hl 0 rfl) ?_
      refine va_get hx hb hts hi_X5_picks_X5 hown hK hP 0 (m_o99 cI cZ ad F G16) rfl 8 (by decide) (hts _ (List.mem_of_getElem? (i := 3) rfl)) (fun _ h9 => h9) rfl dX5_picks_349 ?_
      refine lv_aload_n hx hb dX5_picks_352 rfl (lv_at hl 0 rfl) ?_
      refine va_get hx hb hts hi_X5_picks_X5 hown hK hP 0 (m_o99 cI cZ ad F G16) rfl 18 (by decide) (hts _ (List.mem_of_getElem? (i := 10) rfl)) (fun _ h9 => h9) rfl dX5_picks_353 ?_
      refine lv_iconst (v := 1) hx hb dX5_picks_356 (by decide) ?_
      refine lv_isub hx hb dX5_picks_357 ?_
      refine q_st hx hb hK hP (mW_D hDD _ _) hS 6 0 10 (fun z => mW cI cZ ad F z) (m_a10 cI cZ ad F G16) rfl (m_g10 cI cZ ad F G16 _) dX5_picks_358 h (fun G17 H locs h hP hS => ?_)
      refine lv_iconst (v := 0) hx hb dX5_picks_359 (by decide) ?_
      refine q_nm h (fun v18 h => ?_)
      refine lv_istore (lv' := [(7, .int (v18)), (0, .ref (ad 99)), (5, .int (x5)), (6, .int (x6))]) hx hb dX5_picks_360 hl (by decide) rfl (fun ls hl => ?_)
      exact j362 1000 F G17 x5 x6 v18 _ _ hP hS _ (lv_sub hl [1, 2, 3, 0] rfl) h
    · refine lv_aload_n hx hb dX5_picks_299 rfl (lv_at hl 0 rfl) ?_
      refine lv_iconst (v := 2) hx hb dX5_picks_300 (by decide) ?_
      refine lv_iload hx hb dX5_picks_301 (lv_at hl 1 rfl) ?_
      obtain ⟨⟨v19, F20, G21⟩, hc22, h⟩ := q_some h
      refine q_ci (va_runV (C := RX5) (As := [.int ((2 : Int32)), .int (x5)]) (rest := []) ⟨hx, hb, hml, hown, hts⟩ (mt_X5_fails l D cI cZ ad F G (2 : Int32) x5 v19 F20 G21 hDD hc22) (cwV 2 hts gX5_picks_X5_fails rfl rfl rfl (by decide +kernel) ⟨Nat.le_of_ble_eq_true rfl, Nat.le_of_ble_eq_true rfl⟩) ⟨mR_b, va_recv hK hP (ci := 5) (q0 := 0) rfl rfl, (mR_p hP hK hN).2⟩ rfl rfl hl.1 rfl (lv_room (Nat.le_of_ble_eq_true rfl)) dX5_picks_303 ⟨Nat.le_of_ble_eq_true rfl, Nat.le_of_ble_eq_true rfl⟩) hS (fun H locs hP hS => ?_)
      obtain ⟨zz, hzz, h⟩ := q_some h
      obtain ⟨hq, hnr⟩ := q_bo hzz
      subst hq
      have e1 := congrArg Prod.fst (Option.some.inj h)
      have e2 := congrArg (fun z => z.2.1) (Option.some.inj h)
      have e3 := congrArg (fun z => z.2.2) (Option.some.inj h)
      dsimp only at e1 e2 e3
      exact W.zret hx hb hr hnr (fun t ht hW => ⟨⟨_, (), rfl, e1, by show va_P D vwCl _ t.heap; rw [ht, ← e2, ← e3]; exact hP⟩, hS.F ht⟩) hS.2.2 dX5_picks_306
  have j266 : ∀ (F : Nat → Int32) (G : Nat → Nat → Int32) (x5 : Int32) (x6 : Int32) (H : Heap) (locs : List Loc) , va_P D vwCl (mW cI cZ ad F G) H → va_S (mA cI cZ ad) s.heap H locs → ∀ ls : Array Slot, lv_has ls 8 [(0, .ref (ad 99)), (5, .int (x5)), (6, .int (x6))] → f_X5_picks_B266 x1 x2 x3 x4 F G x5 x6 = some (rv, Fz, Gz) → W p l e (headSpec wsX5_picks ({ frames := 3, cells := 0, slots := 0, locals := 71 } : Room)).room s m (List.toArray ([.ref (ad 99), .int x1, .int x2, .int x3, .int x4] : List Value)) below meth c H locs 0 0 (MQ below (va_Qi (fun z (_ : Unit) => z = rv) (fun _ t => va_P D vwCl (mW cI cZ ad Fz Gz) t.heap) (mA cI cZ ad)) (List.toArray ([.ref (ad 99), .int x1, .int x2, .int x3, .int x4] : List Value)) s 0 0 (mA cI cZ ad)) (F0 m 266 ls []) := by
    intro F G x5 x6 H locs hP hS ls hl h
    refine lv_aload_n hx hb dX5_picks_266 rfl (lv_at hl 0 rfl) ?_
    refine va_get hx hb hts hi_X5_picks_X5 hown hK hP 0 (m_o99 cI cZ ad F G) rfl 20 (by decide) (hts _ (List.mem_of_getElem? (i := 11) rfl)) (fun _ h9 => h9) rfl dX5_picks_267 ?_
    refine lv_iload hx hb dX5_picks_270 (lv_at hl 2 rfl) ?_
    refine q_icmp_ge (tgt := 290) hx hb dX5_picks_272 (by decide) h (fun h => ?_) (fun h => ?_)
    · exact j290 F G x5 x6 _ _ hP hS _ (lv_sub hl [0, 1, 2] rfl) h
    · refine lv_aload_n hx hb dX5_picks_275 rfl (lv_at hl 0 rfl) ?_
      obtain ⟨⟨v23, F24, G25⟩, hc26, h⟩ := q_some h
      refine q_ci (va_runV (C := RX5) (As := []) (rest := []) ⟨hx, hb, hml, hown, hts⟩ (mt_X5_joins l D cI cZ ad F G  v23 F24 G25 hDD hc26) (cwV 0 hts gX5_picks_X5_joins rfl rfl rfl (by decide +kernel) ⟨Nat.le_of_ble_eq_true rfl, Nat.le_of_ble_eq_true rfl⟩) ⟨mR_b, va_recv hK hP (ci := 5) (q0 := 0) rfl rfl, (mR_p hP hK hN).2⟩ rfl rfl hl.1 rfl (lv_room (Nat.le_of_ble_eq_true rfl)) dX5_picks_276 ⟨Nat.le_of_ble_eq_true rfl, Nat.le_of_ble_eq_true rfl⟩) hS (fun H locs hP hS => ?_)
      refine q_if_ne (tgt := 290) hx hb dX5_picks_279 (by decide) h (fun h => ?_) (fun h => ?_)
      · exact j290 F24 G25 x5 x6 _ _ hP hS _ (lv_sub hl [0, 1, 2] rfl) h
      · refine lv_aload_n hx hb dX5_picks_282 rfl (lv_at hl 0 rfl) ?_
        refine lv_iconst (v := 4) hx hb dX5_picks_283 (by decide) ?_
        refine lv_iload hx hb dX5_picks_284 (lv_at hl 1 rfl) ?_
        obtain ⟨⟨v27, F28, G29⟩, hc30, h⟩ := q_some h
        refine q_ci (va_runV (C := RX5) (As := [.int ((4 : Int32)), .int (x5)]) (rest := []) ⟨hx, hb, hml, hown, hts⟩ (mt_X5_fails l D cI cZ ad F24 G25 (4 : Int32) x5 v27 F28 G29 hDD hc30) (cwV 2 hts gX5_picks_X5_fails rfl rfl rfl (by decide +kernel) ⟨Nat.le_of_ble_eq_true rfl, Nat.le_of_ble_eq_true rfl⟩) ⟨mR_b, va_recv hK hP (ci := 5) (q0 := 0) rfl rfl, (mR_p hP hK hN).2⟩ rfl rfl hl.1 rfl (lv_room (Nat.le_of_ble_eq_true rfl)) dX5_picks_286 ⟨Nat.le_of_ble_eq_true rfl, Nat.le_of_ble_eq_true rfl⟩) hS (fun H locs hP hS => ?_)
        obtain ⟨zz, hzz, h⟩ := q_some h
        obtain ⟨hq, hnr⟩ := q_bo hzz
        subst hq
        have e1 := congrArg Prod.fst (Option.some.inj h)
        have e2 := congrArg (fun z => z.2.1) (Option.some.inj h)
        have e3 := congrArg (fun z => z.2.2) (Option.some.inj h)
        dsimp only at e1 e2 e3
        exact W.zret hx hb hr hnr (fun t ht hW => ⟨⟨_, (), rfl, e1, by show va_P D vwCl _ t.heap; rw [ht, ← e2, ← e3]; exact hP⟩, hS.F ht⟩) hS.2.2 dX5_picks_289
  have j214 : ∀ (F : Nat → Int32) (G : Nat → Nat → Int32) (x5 : Int32) (H : Heap) (locs : List Loc) , va_P D vwCl (mW cI cZ ad F G) H → va_S (mA cI cZ ad) s.heap H locs → ∀ ls : Array Slot, lv_has ls 8 [(0, .ref (ad 99)), (5, .int (x5))] → f_X5_picks_B214 x1 x2 x3 x4 F G x5 = some (rv, Fz, Gz) → W p l e (headSpec wsX5_picks ({ frames := 3, cells := 0, slots := 0, locals := 71 } : Room)).room s m (List.toArray ([.ref (ad 99), .int x1, .int x2, .int x3, .int x4] : List Value)) below meth c H locs 0 0 (MQ below (va_Qi (fun z (_ : Unit) => z = rv) (fun _ t => va_P D vwCl (mW cI cZ ad Fz Gz) t.heap) (mA cI cZ ad)) (List.toArray ([.ref (ad 99), .int x1, .int x2, .int x3, .int x4] : List Value)) s 0 0 (mA cI cZ ad)) (F0 m 214 ls []) := by
    intro F G x5 H locs hP hS ls hl h
    refine lv_aload_n hx hb dX5_picks_214 rfl (lv_at hl 0 rfl) ?_
    refine lv_iload hx hb dX5_picks_215 (lv_at hl 1 rfl) ?_
    obtain ⟨v31, hc32, h⟩ := q_some h
    refine q_cs (W.runV (C := RX5) (As := [.int (x5)]) (rest := []) ⟨hx, hb, hml, hown, hts⟩ (mt_X5_needs l D cI cZ ad F G x5 v31 hc32) (cwV 1 hts gX5_picks_X5_needs rfl rfl rfl (by decide +kernel) ⟨Nat.le_of_ble_eq_true rfl, Nat.le_of_ble_eq_true rfl⟩) ⟨mR_b, va_recv hK hP (ci := 5) (q0 := 0) rfl rfl, (mR_p hP hK hN).2⟩ rfl rfl hl.1 rfl (lv_room (Nat.le_of_ble_eq_true rfl)) dX5_picks_217 ⟨Nat.le_of_ble_eq_true rfl, Nat.le_of_ble_eq_true rfl⟩) ?_
    refine lv_istore (lv' := [(6, .int (v31)), (0, .ref (ad 99)), (5, .int (x5))]) hx hb dX5_picks_220 hl (by decide) rfl (fun ls hl => ?_)
    refine lv_iload hx hb dX5_picks_222 (lv_at hl 0 rfl) ?_
    refine lv_aload_n hx hb dX5_picks_224 rfl (lv_at hl 1 rfl) ?_
    refine va_get hx hb hts hi_X5_picks_X5 hown hK hP 0 (m_o99 cI cZ ad F G) rfl 6 (by decide) (hts _ (List.mem_of_getElem? (i := 9) rfl)) (fun _ h9 => h9) rfl dX5_picks_225 ?_
    refine q_icmp_le (tgt := 239) hx hb dX5_picks_228 (by decide) h (fun h => ?_) (fun h => ?_)
    · refine lv_aload_n hx hb dX5_picks_239 rfl (lv_at hl 1 rfl) ?_
      refine va_get hx hb hts hi_X5_picks_X5 hown hK hP 0 (m_o99 cI cZ ad F G) rfl 18 (by decide) (hts _ (List.mem_of_getElem? (i := 10) rfl)) (fun _ h9 => h9) rfl dX5_picks_240 ?_
      refine q_if_ne (tgt := 266) hx hb dX5_picks_243 (by decide) h (fun h => ?_) (fun h => ?_)
      · exact j266 F G x5 v31 _ _ hP hS _ (lv_sub hl [1, 2, 0] rfl) h
      · refine lv_aload_n hx hb dX5_picks_246 rfl (lv_at hl 1 rfl) ?_
        refine lv_aload_n hx hb dX5_picks_247 rfl (lv_at hl 1 rfl) ?_
        refine va_get hx hb hts hi_X5_picks_X5 hown hK hP 0 (m_o99 cI cZ ad F G) rfl 6 (by decide) (hts _ (List.mem_of_getElem? (i := 9) rfl)) (fun _ h9 => h9) rfl dX5_picks_248 ?_
        refine q_put (ty := .int) hx hb hts hi_X5_picks_X5 tyX5 tyX5_ok nmX5 hown hK hP (mW_D hDD _ _) hS 0 20 (fun z => mW cI cZ ad z G) (m_o99 cI cZ ad F G) rfl 20 (by decide) (hts _ (List.mem_of_getElem? (i := 11) rfl)) (fun _ h9 => h9) rfl (by decide +kernel) rfl rfl (Nat.le_of_ble_eq_true rfl) (m_f20 cI cZ ad F G _) dX5_picks_251 h (fun F33 H locs h hP hS => ?_)
        refine lv_aload_n hx hb dX5_picks_254 rfl (lv_at hl 1 rfl) ?_
        refine lv_iconst (v := 1) hx hb dX5_picks_255 (by decide) ?_
        refine q_put (ty := .int) hx hb hts hi_X5_picks_X5 tyX5 tyX5_ok nmX5 hown hK hP (mW_D hDD _ _) hS 0 18 (fun z => mW cI cZ ad z G) (m_o99 cI cZ ad F33 G) rfl 18 (by decide) (hts _ (List.mem_of_getElem? (i := 10) rfl)) (fun _ h9 => h9) rfl (by decide +kernel) rfl rfl (Nat.le_of_ble_eq_true rfl) (m_f18 cI cZ ad F33 G _) dX5_picks_256 h (fun F34 H locs h hP hS => ?_)
        refine lv_aload_n hx hb dX5_picks_259 rfl (lv_at hl 1 rfl) ?_
        refine va_get hx hb hts hi_X5_picks_X5 hown hK hP 0 (m_o99 cI cZ ad F34 G) rfl 21 (by decide) (hts _ (List.mem_of_getElem? (i := 12) rfl)) (fun _ h9 => h9) rfl dX5_picks_260 ?_
        refine lv_iconst (v := 0) hx hb dX5_picks_263 (by decide) ?_
        refine lv_iconst (v := 0) hx hb dX5_picks_264 (by decide) ?_
        refine q_st hx hb hK hP (mW_D hDD _ _) hS 12 0 21 (fun z => mW cI cZ ad F34 z) (m_a21 cI cZ ad F34 G) rfl (m_g21 cI cZ ad F34 G _) dX5_picks_265 h (fun G35 H locs h hP hS => ?_)
        exact j266 F34 G35 x5 v31 _ _ hP hS _ (lv_sub hl [1, 2, 0] rfl) h
    · refine lv_aload_n hx hb dX5_picks_231 rfl (lv_at hl 1 rfl) ?_
      refine lv_iconst (v := 3) hx hb dX5_picks_232 (by decide) ?_
      refine lv_iload hx hb dX5_picks_233 (lv_at hl 2 rfl) ?_
      obtain ⟨⟨v36, F37, G38⟩, hc39, h⟩ := q_some h
      refine q_ci (va_runV (C := RX5) (As := [.int ((3 : Int32)), .int (x5)]) (rest := []) ⟨hx, hb, hml, hown, hts⟩ (mt_X5_fails l D cI cZ ad F G (3 : Int32) x5 v36 F37 G38 hDD hc39) (cwV 2 hts gX5_picks_X5_fails rfl rfl rfl (by decide +kernel) ⟨Nat.le_of_ble_eq_true rfl, Nat.le_of_ble_eq_true rfl⟩) ⟨mR_b, va_recv hK hP (ci := 5) (q0 := 0) rfl rfl, (mR_p hP hK hN).2⟩ rfl rfl hl.1 rfl (lv_room (Nat.le_of_ble_eq_true rfl)) dX5_picks_235 ⟨Nat.le_of_ble_eq_true rfl, Nat.le_of_ble_eq_true rfl⟩) hS (fun H locs hP hS => ?_)
      obtain ⟨zz, hzz, h⟩ := q_some h
      obtain ⟨hq, hnr⟩ := q_bo hzz
      subst hq
      have e1 := congrArg Prod.fst (Option.some.inj h)
      have e2 := congrArg (fun z => z.2.1) (Option.some.inj h)
      have e3 := congrArg (fun z => z.2.2) (Option.some.inj h)
      dsimp only at e1 e2 e3
      exact W.zret hx hb hr hnr (fun t ht hW => ⟨⟨_, (), rfl, e1, by show va_P D vwCl _ t.heap; rw [ht, ← e2, ← e3]; exact hP⟩, hS.F ht⟩) hS.2.2 dX5_picks_238
  have j182 : ∀ (F : Nat → Int32) (G : Nat → Nat → Int32) (x5 : Int32) (H : Heap) (locs : List Loc) , va_P D vwCl (mW cI cZ ad F G) H → va_S (mA cI cZ ad) s.heap H locs → ∀ ls : Array Slot, lv_has ls 8 [(0, .ref (ad 99)), (4, .int (x4)), (5, .int (x5))] → f_X5_picks_B182 x1 x2 x3 x4 F G x5 = some (rv, Fz, Gz) → W p l e (headSpec wsX5_picks ({ frames := 3, cells := 0, slots := 0, locals := 71 } : Room)).room s m (List.toArray ([.ref (ad 99), .int x1, .int x2, .int x3, .int x4] : List Value)) below meth c H locs 0 0 (MQ below (va_Qi (fun z (_ : Unit) => z = rv) (fun _ t => va_P D vwCl (mW cI cZ ad Fz Gz) t.heap) (mA cI cZ ad)) (List.toArray ([.ref (ad 99), .int x1, .int x2, .int x3, .int x4] : List Value)) s 0 0 (mA cI cZ ad)) (F0 m 182 ls []) := by
    intro F G x5 H locs hP hS ls hl h
    refine lv_aload_n hx hb dX5_picks_182 rfl (lv_at hl 0 rfl) ?_
    refine va_get hx hb hts hi_X5_picks_X5 hown hK hP 0 (m_o99 cI cZ ad F G) rfl 26 (by decide) (hts _ (List.mem_of_getElem? (i := 5) rfl)) (fun _ h9 => h9) rfl dX5_picks_183 ?_
    refine q_if_eq (tgt := 214) hx hb dX5_picks_186 (by decide) h (fun h => ?_) (fun h => ?_)
    · exact j214 F G x5 _ _ hP hS _ (lv_sub hl [0, 2] rfl) h
    · refine lv_aload_n hx hb dX5_picks_189 rfl (lv_at hl 0 rfl) ?_
      refine va_get hx hb hts hi_X5_picks_X5 hown hK hP 0 (m_o99 cI cZ ad F G) rfl 2 (by decide) (hts _ (List.mem_of_getElem? (i := 7) rfl)) (fun _ h9 => h9) rfl dX5_picks_190 ?_
      refine q_if_le (tgt := 214) hx hb dX5_picks_193 (by decide) h (fun h => ?_) (fun h => ?_)
      · exact j214 F G x5 _ _ hP hS _ (lv_sub hl [0, 2] rfl) h
      · refine lv_iload hx hb dX5_picks_196 (lv_at hl 1 rfl) ?_
        refine q_if_eq (tgt := 214) hx hb dX5_picks_198 (by decide) h (fun h => ?_) (fun h => ?_)
        · exact j214 F G x5 _ _ hP hS _ (lv_sub hl [0, 2] rfl) h
        · refine lv_aload_n hx hb dX5_picks_201 rfl (lv_at hl 0 rfl) ?_
          refine va_get hx hb hts hi_X5_picks_X5 hown hK hP 0 (m_o99 cI cZ ad F G) rfl 8 (by decide) (hts _ (List.mem_of_getElem? (i := 3) rfl)) (fun _ h9 => h9) rfl dX5_picks_202 ?_
          refine lv_iconst (v := 2) hx hb dX5_picks_205 (by decide) ?_
          refine q_icmp_lt (tgt := 214) hx hb dX5_picks_206 (by decide) h (fun h => ?_) (fun h => ?_)
          · exact j214 F G x5 _ _ hP hS _ (lv_sub hl [0, 2] rfl) h
          · refine lv_aload_n hx hb dX5_picks_209 rfl (lv_at hl 0 rfl) ?_
            refine lv_iconst (v := 0) hx hb dX5_picks_210 (by decide) ?_
            obtain ⟨⟨F41, G42⟩, hc43, h⟩ := q_some h
            refine q_cv (va_runV (C := RX5) (As := [.int ((0 : Int32))]) (rest := []) ⟨hx, hb, hml, hown, hts⟩ (mt_X5_passesBy l D cI cZ ad F G (0 : Int32) F41 G42 hDD hc43) (cwV 1 hts gX5_picks_X5_passesBy rfl rfl rfl (by decide +kernel) ⟨Nat.le_of_ble_eq_true rfl, Nat.le_of_ble_eq_true rfl⟩) ⟨mR_b, va_recv hK hP (ci := 5) (q0 := 0) rfl rfl, (mR_p hP hK hN).2⟩ rfl rfl hl.1 rfl (lv_room (Nat.le_of_ble_eq_true rfl)) dX5_picks_211 ⟨Nat.le_of_ble_eq_true rfl, Nat.le_of_ble_eq_true rfl⟩) hS (fun H locs hP hS => ?_)
            exact j214 F41 G42 x5 _ _ hP hS _ (lv_sub hl [0, 2] rfl) h
  have j150 : ∀ (F : Nat → Int32) (G : Nat → Nat → Int32) (x5 : Int32) (H : Heap) (locs : List Loc) , va_P D vwCl (mW cI cZ ad F G) H → va_S (mA cI cZ ad) s.heap H locs → ∀ ls : Array Slot, lv_has ls 8 [(0, .ref (ad 99)), (4, .int (x4)), (5, .int (x5))] → f_X5_picks_B150 x1 x2 x3 x4 F G x5 = some (rv, Fz, Gz) → W p l e (headSpec wsX5_picks ({ frames := 3, cells := 0, slots := 0, locals := 71 } : Room)).room s m (List.toArray ([.ref (ad 99), .int x1, .int x2, .int x3, .int x4] : List Value)) below meth c H locs 0 0 (MQ below (va_Qi (fun z (_ : Unit) => z = rv) (fun _ t => va_P D vwCl (mW cI cZ ad Fz Gz) t.heap) (mA cI cZ ad)) (List.toArray ([.ref (ad 99), .int x1, .int x2, .int x3, .int x4] : List Value)) s 0 0 (mA cI cZ ad)) (F0 m 150 ls []) := by
    intro F G x5 H locs hP hS ls hl h
    refine lv_aload_n hx hb dX5_picks_150 rfl (lv_at hl 0 rfl) ?_
    refine va_get hx hb hts hi_X5_picks_X5 hown hK hP 0 (m_o99 cI cZ ad F G) rfl 26 (by decide) (hts _ (List.mem_of_getElem? (i := 5) rfl)) (fun _ h9 => h9) rfl dX5_picks_151 ?_
    refine q_if_ne (tgt := 182) hx hb dX5_picks_154 (by decide) h (fun h => ?_) (fun h => ?_)
    · exact j182 F G x5 _ _ hP hS _ (lv_sub hl [0, 1, 2] rfl) h
    · refine lv_aload_n hx hb dX5_picks_157 rfl (lv_at hl 0 rfl) ?_
      refine va_get hx hb hts hi_X5_picks_X5 hown hK hP 0 (m_o99 cI cZ ad F G) rfl 13 (by decide) (hts _ (List.mem_of_getElem? (i := 4) rfl)) (fun _ h9 => h9) rfl dX5_picks_158 ?_
      refine lv_aload_n hx hb dX5_picks_161 rfl (lv_at hl 0 rfl) ?_
      refine va_get hx hb hts hi_X5_picks_X5 hown hK hP 0 (m_o99 cI cZ ad F G) rfl 8 (by decide) (hts _ (List.mem_of_getElem? (i := 3) rfl)) (fun _ h9 => h9) rfl dX5_picks_162 ?_
      refine q_ld hx hb hK hP 9 0 (m_a13 cI cZ ad F G) rfl dX5_picks_165 h (fun v44 h => ?_)
      refine q_if_lt (tgt := 182) hx hb dX5_picks_166 (by decide) h (fun h => ?_) (fun h => ?_)
      · exact j182 F G x5 _ _ hP hS _ (lv_sub hl [0, 1, 2] rfl) h
      · refine lv_aload_n hx hb dX5_picks_169 rfl (lv_at hl 0 rfl) ?_
        refine lv_aload_n hx hb dX5_picks_170 rfl (lv_at hl 0 rfl) ?_
        refine va_get hx hb hts hi_X5_picks_X5 hown hK hP 0 (m_o99 cI cZ ad F G) rfl 13 (by decide) (hts _ (List.mem_of_getElem? (i := 4) rfl)) (fun _ h9 => h9) rfl dX5_picks_171 ?_
        refine lv_aload_n hx hb dX5_picks_174 rfl (lv_at hl 0 rfl) ?_
        refine va_get hx hb hts hi_X5_picks_X5 hown hK hP 0 (m_o99 cI cZ ad F G) rfl 8 (by decide) (hts _ (List.mem_of_getElem? (i := 3) rfl)) (fun _ h9 => h9) rfl dX5_picks_175 ?_
        refine q_ld hx hb hK hP 9 0 (m_a13 cI cZ ad F G) rfl dX5_picks_178 h (fun v45 h => ?_)
        obtain ⟨⟨F47, G48⟩, hc49, h⟩ := q_some h
        refine q_cv (va_runV (C := RX5) (As := [.int (v45)]) (rest := []) ⟨hx, hb, hml, hown, hts⟩ (mt_X5_passesBy l D cI cZ ad F G v45 F47 G48 hDD hc49) (cwV 1 hts gX5_picks_X5_passesBy rfl rfl rfl (by decide +kernel) ⟨Nat.le_of_ble_eq_true rfl, Nat.le_of_ble_eq_true rfl⟩) ⟨mR_b, va_recv hK hP (ci := 5) (q0 := 0) rfl rfl, (mR_p hP hK hN).2⟩ rfl rfl hl.1 rfl (lv_room (Nat.le_of_ble_eq_true rfl)) dX5_picks_179 ⟨Nat.le_of_ble_eq_true rfl, Nat.le_of_ble_eq_true rfl⟩) hS (fun H locs hP hS => ?_)
        exact j182 F47 G48 x5 _ _ hP hS _ (lv_sub hl [0, 1, 2] rfl) h
  have j130 : ∀ (F : Nat → Int32) (G : Nat → Nat → Int32) (x5 : Int32) (H : Heap) (locs : List Loc) , va_P D vwCl (mW cI cZ ad F G) H → va_S (mA cI cZ ad) s.heap H locs → ∀ ls : Array Slot, lv_has ls 8 [(0, .ref (ad 99)), (4, .int (x4)), (5, .int (x5))] → f_X5_picks_B130 x1 x2 x3 x4 F G x5 = some (rv, Fz, Gz) → W p l e (headSpec wsX5_picks ({ frames := 3, cells := 0, slots := 0, locals := 71 } : Room)).room s m (List.toArray ([.ref (ad 99), .int x1, .int x2, .int x3, .int x4] : List Value)) below meth c H locs 0 0 (MQ below (va_Qi (fun z (_ : Unit) => z = rv) (fun _ t => va_P D vwCl (mW cI cZ ad Fz Gz) t.heap) (mA cI cZ ad)) (List.toArray ([.ref (ad 99), .int x1, .int x2, .int x3, .int x4] : List Value)) s 0 0 (mA cI cZ ad)) (F0 m 130 ls []) := by
    intro F G x5 H locs hP hS ls hl h
    refine lv_aload_n hx hb dX5_picks_130 rfl (lv_at hl 0 rfl) ?_
    refine va_get hx hb hts hi_X5_picks_X5 hown hK hP 0 (m_o99 cI cZ ad F G) rfl 26 (by decide) (hts _ (List.mem_of_getElem? (i := 5) rfl)) (fun _ h9 => h9) rfl dX5_picks_131 ?_
    refine q_if_ne (tgt := 150) hx hb dX5_picks_134 (by decide) h (fun h => ?_) (fun h => ?_)
    · exact j150 F G x5 _ _ hP hS _ (lv_sub hl [0, 1, 2] rfl) h
    · refine lv_aload_n hx hb dX5_picks_137 rfl (lv_at hl 0 rfl) ?_
      refine lv_aload_n hx hb dX5_picks_138 rfl (lv_at hl 0 rfl) ?_
      refine va_get hx hb hts hi_X5_picks_X5 hown hK hP 0 (m_o99 cI cZ ad F G) rfl 12 (by decide) (hts _ (List.mem_of_getElem? (i := 2) rfl)) (fun _ h9 => h9) rfl dX5_picks_139 ?_
      refine lv_aload_n hx hb dX5_picks_142 rfl (lv_at hl 0 rfl) ?_
      refine va_get hx hb hts hi_X5_picks_X5 hown hK hP 0 (m_o99 cI cZ ad F G) rfl 8 (by decide) (hts _ (List.mem_of_getElem? (i := 3) rfl)) (fun _ h9 => h9) rfl dX5_picks_143 ?_
      refine q_ld hx hb hK hP 8 0 (m_a12 cI cZ ad F G) rfl dX5_picks_146 h (fun v50 h => ?_)
      obtain ⟨⟨F52, G53⟩, hc54, h⟩ := q_some h
      refine q_cv (va_runV (C := RX5) (As := [.int (v50)]) (rest := []) ⟨hx, hb, hml, hown, hts⟩ (mt_X5_passesBy l D cI cZ ad F G v50 F52 G53 hDD hc54) (cwV 1 hts gX5_picks_X5_passesBy rfl rfl rfl (by decide +kernel) ⟨Nat.le_of_ble_eq_true rfl, Nat.le_of_ble_eq_true rfl⟩) ⟨mR_b, va_recv hK hP (ci := 5) (q0 := 0) rfl rfl, (mR_p hP hK hN).2⟩ rfl rfl hl.1 rfl (lv_room (Nat.le_of_ble_eq_true rfl)) dX5_picks_147 ⟨Nat.le_of_ble_eq_true rfl, Nat.le_of_ble_eq_true rfl⟩) hS (fun H locs hP hS => ?_)
      exact j150 F52 G53 x5 _ _ hP hS _ (lv_sub hl [0, 1, 2] rfl) h
  have j98 : ∀ (F : Nat → Int32) (G : Nat → Nat → Int32) (x5 : Int32) (H : Heap) (locs : List Loc) , va_P D vwCl (mW cI cZ ad F G) H → va_S (mA cI cZ ad) s.heap H locs → ∀ ls : Array Slot, lv_has ls 8 [(0, .ref (ad 99)), (4, .int (x4)), (5, .int (x5))] → f_X5_picks_B98 x1 x2 x3 x4 F G x5 = some (rv, Fz, Gz) → W p l e (headSpec wsX5_picks ({ frames := 3, cells := 0, slots := 0, locals := 71 } : Room)).room s m (List.toArray ([.ref (ad 99), .int x1, .int x2, .int x3, .int x4] : List Value)) below meth c H locs 0 0 (MQ below (va_Qi (fun z (_ : Unit) => z = rv) (fun _ t => va_P D vwCl (mW cI cZ ad Fz Gz) t.heap) (mA cI cZ ad)) (List.toArray ([.ref (ad 99), .int x1, .int x2, .int x3, .int x4] : List Value)) s 0 0 (mA cI cZ ad)) (F0 m 98 ls []) := by
    intro F G x5 H locs hP hS ls hl h
    refine lv_aload_n hx hb dX5_picks_98 rfl (lv_at hl 0 rfl) ?_
    refine lv_aload_n hx hb dX5_picks_99 rfl (lv_at hl 0 rfl) ?_
    refine va_get hx hb hts hi_X5_picks_X5 hown hK hP 0 (m_o99 cI cZ ad F G) rfl 8 (by decide) (hts _ (List.mem_of_getElem? (i := 3) rfl)) (fun _ h9 => h9) rfl dX5_picks_100 ?_
    obtain ⟨⟨F56, G57⟩, hc58, h⟩ := q_some h
    refine q_cv (va_runV (C := RX5) (As := [.int ((F 8))]) (rest := []) ⟨hx, hb, hml, hown, hts⟩ (mt_X5_passesBy l D cI cZ ad F G ((F 8)) F56 G57 hDD hc58) (cwV 1 hts gX5_picks_X5_passesBy rfl rfl rfl (by decide +kernel) ⟨Nat.le_of_ble_eq_true rfl, Nat.le_of_ble_eq_true rfl⟩) ⟨mR_b, va_recv hK hP (ci := 5) (q0 := 0) rfl rfl, (mR_p hP hK hN).2⟩ rfl rfl hl.1 rfl (lv_room (Nat.le_of_ble_eq_true rfl)) dX5_picks_103 ⟨Nat.le_of_ble_eq_true rfl, Nat.le_of_ble_eq_true rfl⟩) hS (fun H locs hP hS => ?_)
    refine lv_aload_n hx hb dX5_picks_106 rfl (lv_at hl 0 rfl) ?_
    refine va_get hx hb hts hi_X5_picks_X5 hown hK hP 0 (m_o99 cI cZ ad F56 G57) rfl 26 (by decide) (hts _ (List.mem_of_getElem? (i := 5) rfl)) (fun _ h9 => h9) rfl dX5_picks_107 ?_
    refine q_if_eq (tgt := 130) hx hb dX5_picks_110 (by decide) h (fun h => ?_) (fun h => ?_)
    · exact j130 F56 G57 x5 _ _ hP hS _ (lv_sub hl [0, 1, 2] rfl) h
    · refine lv_aload_n hx hb dX5_picks_113 rfl (lv_at hl 0 rfl) ?_
      refine va_get hx hb hts hi_X5_picks_X5 hown hK hP 0 (m_o99 cI cZ ad F56 G57) rfl 8 (by decide) (hts _ (List.mem_of_getElem? (i := 3) rfl)) (fun _ h9 => h9) rfl dX5_picks_114 ?_
      refine q_if_le (tgt := 130) hx hb dX5_picks_117 (by decide) h (fun h => ?_) (fun h => ?_)
      · exact j130 F56 G57 x5 _ _ hP hS _ (lv_sub hl [0, 1, 2] rfl) h
      · refine lv_aload_n hx hb dX5_picks_120 rfl (lv_at hl 0 rfl) ?_
        refine lv_aload_n hx hb dX5_picks_121 rfl (lv_at hl 0 rfl) ?_
        refine va_get hx hb hts hi_X5_picks_X5 hown hK hP 0 (m_o99 cI cZ ad F56 G57) rfl 8 (by decide) (hts _ (List.mem_of_getElem? (i := 3) rfl)) (fun _ h9 => h9) rfl dX5_picks_122 ?_
        refine lv_iconst (v := 1) hx hb dX5_picks_125 (by decide) ?_
        refine lv_isub hx hb dX5_picks_126 ?_
        obtain ⟨⟨F60, G61⟩, hc62, h⟩ := q_some h
        refine q_cv (va_runV (C := RX5) (As := [.int (((F56 8) - (1 : Int32)))]) (rest := []) ⟨hx, hb, hml, hown, hts⟩ (mt_X5_passesBy l D cI cZ ad F56 G57 (((F56 8) - (1 : Int32))) F60 G61 hDD hc62) (cwV 1 hts gX5_picks_X5_passesBy rfl rfl rfl (by decide +kernel) ⟨Nat.le_of_ble_eq_true rfl, Nat.le_of_ble_eq_true rfl⟩) ⟨mR_b, va_recv hK hP (ci := 5) (q0 := 0) rfl rfl, (mR_p hP hK hN).2⟩ rfl rfl hl.1 rfl (lv_room (Nat.le_of_ble_eq_true rfl)) dX5_picks_127 ⟨Nat.le_of_ble_eq_true rfl, Nat.le_of_ble_eq_true rfl⟩) hS (fun H locs hP hS => ?_)
        exact j130 F60 G61 x5 _ _ hP hS _ (lv_sub hl [0, 1, 2] rfl) h
  have j95 : ∀ (F : Nat → Int32) (G : Nat → Nat → Int32) (x5 : Int32) (s1 : Int32) (H : Heap) (locs : List Loc) , va_P D vwCl (mW cI cZ ad F G) H → va_S (mA cI cZ ad) s.heap H locs → ∀ ls : Array Slot, lv_has ls 8 [(0, .ref (ad 99)), (4, .int (x4)), (5, .int (x5))] → f_X5_picks_B95 x1 x2 x3 x4 F G x5 s1 = some (rv, Fz, Gz) → W p l e (headSpec wsX5_picks ({ frames := 3, cells := 0, slots := 0, locals := 71 } : Room)).room s m (List.toArray ([.ref (ad 99), .int x1, .int x2, .int x3, .int x4] : List Value)) below meth c H locs 0 0 (MQ below (va_Qi (fun z (_ : Unit) => z = rv) (fun _ t => va_P D vwCl (mW cI cZ ad Fz Gz) t.heap) (mA cI cZ ad)) (List.toArray ([.ref (ad 99), .int x1, .int x2, .int x3, .int x4] : List Value)) s 0 0 (mA cI cZ ad)) (F0 m 95 ls [.int (s1), .ref (ad 99)]) := by
    intro F G x5 s1 H locs hP hS ls hl h
    obtain ⟨⟨F64, G65⟩, hc66, h⟩ := q_some h
    refine q_cv (va_runV (C := RX5) (As := [.int (s1)]) (rest := []) ⟨hx, hb, hml, hown, hts⟩ (mt_X5_passesBy l D cI cZ ad F G s1 F64 G65 hDD hc66) (cwV 1 hts gX5_picks_X5_passesBy rfl rfl rfl (by decide +kernel) ⟨Nat.le_of_ble_eq_true rfl, Nat.le_of_ble_eq_true rfl⟩) ⟨mR_b, va_recv hK hP (ci := 5) (q0 := 0) rfl rfl, (mR_p hP hK hN).2⟩ rfl rfl hl.1 rfl (lv_room (Nat.le_of_ble_eq_true rfl)) dX5_picks_95 ⟨Nat.le_of_ble_eq_true rfl, Nat.le_of_ble_eq_true rfl⟩) hS (fun H locs hP hS => ?_)
    exact j98 F64 G65 x5 _ _ hP hS _ (lv_sub hl [0, 1, 2] rfl) h
  refine lv_bipush (v := 12) hx hb dX5_picks_0 (by decide) ?_
  refine lv_iload_n hx hb dX5_picks_2 rfl (lv_at hl 1 rfl) ?_
  refine lv_imul hx hb dX5_picks_3 ?_
  refine lv_iload_n hx hb dX5_picks_4 rfl (lv_at hl 2 rfl) ?_
  refine lv_iadd hx hb dX5_picks_5 ?_
  refine q_nm h (fun v67 h => ?_)
  refine lv_istore (lv' := [(5, .int (v67)), (0, .ref (ad 99)), (1, .int (x1)), (2, .int (x2)), (3, .int (x3)), (4, .int (x4))]) hx hb dX5_picks_6 hl (by decide) rfl (fun ls hl => ?_)
  refine lv_aload_n hx hb dX5_picks_8 rfl (lv_at hl 1 rfl) ?_
  refine lv_iconst (v := 0) hx hb dX5_picks_9 (by decide) ?_
  refine q_put (ty := .int) hx hb hts hi_X5_picks_X5 tyX5 tyX5_ok nmX5 hown hK hP (mW_D hDD _ _) hS 0 27 (fun z => mW cI cZ ad z G) (m_o99 cI cZ ad F G) rfl 27 (by decide) (hts _ (List.mem_of_getElem? (i := 1) rfl)) (fun _ h9 => h9) rfl (by decide +kernel) rfl rfl (Nat.le_of_ble_eq_true rfl) (m_f27 cI cZ ad F G _) dX5_picks_10 h (fun F68 H locs h hP hS => ?_)
  refine lv_aload_n hx hb dX5_picks_13 rfl (lv_at hl 1 rfl) ?_
  refine va_get hx hb hts hi_X5_picks_X5 hown hK hP 0 (m_o99 cI cZ ad F68 G) rfl 12 (by decide) (hts _ (List.mem_of_getElem? (i := 2) rfl)) (fun _ h9 => h9) rfl dX5_picks_14 ?_
  refine lv_aload_n hx hb dX5_picks_17 rfl (lv_at hl 1 rfl) ?_
  refine va_get hx hb hts hi_X5_picks_X5 hown hK hP 0 (m_o99 cI cZ ad F68 G) rfl 8 (by decide) (hts _ (List.mem_of_getElem? (i := 3) rfl)) (fun _ h9 => h9) rfl dX5_picks_18 ?_
  refine lv_iconst (v := -1) hx hb dX5_picks_21 (by decide) ?_
  refine q_st hx hb hK hP (mW_D hDD _ _) hS 8 0 12 (fun z => mW cI cZ ad F68 z) (m_a12 cI cZ ad F68 G) rfl (m_g12 cI cZ ad F68 G _) dX5_picks_22 h (fun G69 H locs h hP hS => ?_)
  refine lv_aload_n hx hb dX5_picks_23 rfl (lv_at hl 1 rfl) ?_
  refine va_get hx hb hts hi_X5_picks_X5 hown hK hP 0 (m_o99 cI cZ ad F68 G69) rfl 13 (by decide) (hts _ (List.mem_of_getElem? (i := 4) rfl)) (fun _ h9 => h9) rfl dX5_picks_24 ?_
  refine lv_aload_n hx hb dX5_picks_27 rfl (lv_at hl 1 rfl) ?_
  refine va_get hx hb hts hi_X5_picks_X5 hown hK hP 0 (m_o99 cI cZ ad F68 G69) rfl 8 (by decide) (hts _ (List.mem_of_getElem? (i := 3) rfl)) (fun _ h9 => h9) rfl dX5_picks_28 ?_
  refine lv_iconst (v := -1) hx hb dX5_picks_31 (by decide) ?_
  refine q_st hx hb hK hP (mW_D hDD _ _) hS 9 0 13 (fun z => mW cI cZ ad F68 z) (m_a13 cI cZ ad F68 G69) rfl (m_g13 cI cZ ad F68 G69 _) dX5_picks_32 h (fun G70 H locs h hP hS => ?_)
  refine lv_aload_n hx hb dX5_picks_33 rfl (lv_at hl 1 rfl) ?_
  refine va_get hx hb hts hi_X5_picks_X5 hown hK hP 0 (m_o99 cI cZ ad F68 G70) rfl 26 (by decide) (hts _ (List.mem_of_getElem? (i := 5) rfl)) (fun _ h9 => h9) rfl dX5_picks_34 ?_
  refine q_if_ne (tgt := 98) hx hb dX5_picks_37 (by decide) h (fun h => ?_) (fun h => ?_)
  · exact j98 F68 G70 v67 _ _ hP hS _ (lv_sub hl [1, 5, 0] rfl) h
  · refine lv_aload_n hx hb dX5_picks_40 rfl (lv_at hl 1 rfl) ?_
    refine lv_iload_n hx hb dX5_picks_41 rfl (lv_at hl 2 rfl) ?_
    refine lv_iload_n hx hb dX5_picks_42 rfl (lv_at hl 3 rfl) ?_
    refine lv_iload_n hx hb dX5_picks_43 rfl (lv_at hl 4 rfl) ?_
    obtain ⟨⟨F72, G73⟩, hc74, h⟩ := q_some h
    refine q_cv (va_runV (C := RX5) (As := [.int (x1), .int (x2), .int (x3)]) (rest := []) ⟨hx, hb, hml, hown, hts⟩ (mt_X5_catches l D cI cZ ad F68 G70 x1 x2 x3 F72 G73 hDD hc74) (cwV 3 hts gX5_picks_X5_catches rfl rfl rfl (by decide +kernel) ⟨Nat.le_of_ble_eq_true rfl, Nat.le_of_ble_eq_true rfl⟩) ⟨mR_b, va_recv hK hP (ci := 5) (q0 := 0) rfl rfl, (mR_p hP hK hN).2⟩ rfl rfl hl.1 rfl (lv_room (Nat.le_of_ble_eq_true rfl)) dX5_picks_44 ⟨Nat.le_of_ble_eq_true rfl, Nat.le_of_ble_eq_true rfl⟩) hS (fun H locs hP hS => ?_)
    refine lv_aload_n hx hb dX5_picks_47 rfl (lv_at hl 1 rfl) ?_
    refine va_get hx hb hts hi_X5_picks_X5 hown hK hP 0 (m_o99 cI cZ ad F72 G73) rfl 12 (by decide) (hts _ (List.mem_of_getElem? (i := 2) rfl)) (fun _ h9 => h9) rfl dX5_picks_48 ?_
    refine lv_aload_n hx hb dX5_picks_51 rfl (lv_at hl 1 rfl) ?_
    refine va_get hx hb hts hi_X5_picks_X5 hown hK hP 0 (m_o99 cI cZ ad F72 G73) rfl 8 (by decide) (hts _ (List.mem_of_getElem? (i := 3) rfl)) (fun _ h9 => h9) rfl dX5_picks_52 ?_
    refine q_ld hx hb hK hP 8 0 (m_a12 cI cZ ad F72 G73) rfl dX5_picks_55 h (fun v75 h => ?_)
    refine q_if_ge (tgt := 67) hx hb dX5_picks_56 (by decide) h (fun h => ?_) (fun h => ?_)
    · refine lv_aload_n hx hb dX5_picks_67 rfl (lv_at hl 1 rfl) ?_
      refine va_get hx hb hts hi_X5_picks_X5 hown hK hP 0 (m_o99 cI cZ ad F72 G73) rfl 25 (by decide) (hts _ (List.mem_of_getElem? (i := 6) rfl)) (fun _ h9 => h9) rfl dX5_picks_68 ?_
      refine q_if_ne (tgt := 98) hx hb dX5_picks_71 (by decide) h (fun h => ?_) (fun h => ?_)
      · exact j98 F72 G73 v67 _ _ hP hS _ (lv_sub hl [1, 5, 0] rfl) h
      · refine lv_aload_n hx hb dX5_picks_74 rfl (lv_at hl 1 rfl) ?_
        refine lv_aload_n hx hb dX5_picks_75 rfl (lv_at hl 1 rfl) ?_
        refine va_get hx hb hts hi_X5_picks_X5 hown hK hP 0 (m_o99 cI cZ ad F72 G73) rfl 2 (by decide) (hts _ (List.mem_of_getElem? (i := 7) rfl)) (fun _ h9 => h9) rfl dX5_picks_76 ?_
        refine q_if_ne (tgt := 91) hx hb dX5_picks_79 (by decide) h (fun h => ?_) (fun h => ?_)
        · refine lv_aload_n hx hb dX5_picks_91 rfl (lv_at hl 1 rfl) ?_
          refine va_get hx hb hts hi_X5_picks_X5 hown hK hP 0 (m_o99 cI cZ ad F72 G73) rfl 24 (by decide) (hts _ (List.mem_of_getElem? (i := 8) rfl)) (fun _ h9 => h9) rfl dX5_picks_92 ?_
          exact j95 F72 G73 v67 ((F72 24)) _ _ hP hS _ (lv_sub hl [1, 5, 0] rfl) h
        · refine lv_aload_n hx hb dX5_picks_82 rfl (lv_at hl 1 rfl) ?_
          refine va_get hx hb hts hi_X5_picks_X5 hown hK hP 0 (m_o99 cI cZ ad F72 G73) rfl 8 (by decide) (hts _ (List.mem_of_getElem? (i := 3) rfl)) (fun _ h9 => h9) rfl dX5_picks_83 ?_
          refine lv_iconst (v := 1) hx hb dX5_picks_86 (by decide) ?_
          refine lv_isub hx hb dX5_picks_87 ?_
          refine lv_goto (tgt := 95) hx hb dX5_picks_88 (by decide) ?_
          exact j95 F72 G73 v67 (((F72 8) - (1 : Int32))) _ _ hP hS _ (lv_sub hl [1, 5, 0] rfl) h
    · refine lv_aload_n hx hb dX5_picks_59 rfl (lv_at hl 1 rfl) ?_
      refine lv_iconst (v := 1) hx hb dX5_picks_60 (by decide) ?_
      refine lv_iload hx hb dX5_picks_61 (lv_at hl 0 rfl) ?_
      obtain ⟨⟨v76, F77, G78⟩, hc79, h⟩ := q_some h
      refine q_ci (va_runV (C := RX5) (As := [.int ((1 : Int32)), .int (v67)]) (rest := []) ⟨hx, hb, hml, hown, hts⟩ (mt_X5_fails l D cI cZ ad F72 G73 (1 : Int32) v67 v76 F77 G78 hDD hc79) (cwV 2 hts gX5_picks_X5_fails rfl rfl rfl (by decide +kernel) ⟨Nat.le_of_ble_eq_true rfl, Nat.le_of_ble_eq_true rfl⟩) ⟨mR_b, va_recv hK hP (ci := 5) (q0 := 0) rfl rfl, (mR_p hP hK hN).2⟩ rfl rfl hl.1 rfl (lv_room (Nat.le_of_ble_eq_true rfl)) dX5_picks_63 ⟨Nat.le_of_ble_eq_true rfl, Nat.le_of_ble_eq_true rfl⟩) hS (fun H locs hP hS => ?_)
      obtain ⟨zz, hzz, h⟩ := q_some h
      obtain ⟨hq, hnr⟩ := q_bo hzz
      subst hq
      have e1 := congrArg Prod.fst (Option.some.inj h)
      have e2 := congrArg (fun z => z.2.1) (Option.some.inj h)
      have e3 := congrArg (fun z => z.2.2) (Option.some.inj h)
      dsimp only at e1 e2 e3
      exact W.zret hx hb hr hnr (fun t ht hW => ⟨⟨_, (), rfl, e1, by show va_P D vwCl _ t.heap; rw [ht, ← e2, ← e3]; exact hP⟩, hS.F ht⟩) hS.2.2 dX5_picks_66
theorem hi_X5_worksRow_X5 : ∀ w ∈ u_ws RX5 TX5 48, w ∈ wsX5_worksRow := fun w h => (List.mem_cons_of_mem _ (List.mem_append_right _ h))
set_option maxHeartbeats 4000000 in
set_option maxRecDepth 100000 in
theorem mt_X5_worksRow (l : Launch) (D : va_G) (cI cZ : ClassId) (ad : Nat → Nat) (F : Nat → Int32) (G : Nat → Nat → Int32) (x1 : Int32) (x2 : Int32) (x3 : Int32) (rv : Int32) (Fz : Nat → Int32) (Gz : Nat → Nat → Int32) (hDD : va_D (fun _ => True) (mW cI cZ ad (fun _ => 0) (fun _ _ => 0))) (h : f_X5_worksRow F G x1 x2 x3 = some (rv, Fz, Gz)) : Met l yX5_worksRow wsX5_worksRow ({ frames := 4, cells := 0, slots := 0, locals := 98 } : Room) (va_Pc [.ref (ad 99), .int x1, .int x2, .int x3] (mR D cI cZ ad F G)) (va_Qi (fun z (_ : Unit) => z = rv) (fun _ t => va_P D vwCl (mW cI cZ ad Fz Gz) t.heap) (mA cI cZ ad)) 0 0 (mA cI cZ ad) := by
  refine Met.ofW (cc := cX5_worksRow) (maxL := 7) (ret := (some .boolean)) (by decide) rfl ?_
  intro p e s m args below meth c s₁ B hml hv
  obtain ⟨rfl, hP, hK, hN⟩ := hv
  have hx := B.exec
  have hb := B.bytes
  have hr := B.returns
  have hts := atoms_spec (ws := wsX5_worksRow) B.pre
  have hown : s.vm.findClass RX5 = some m.cls := findClass_of_methodNamed B.named
  have hlocks := B.notSynchronized
  have hS : va_S (mA cI cZ ad) s.heap s.heap [] := va_S.rf
  have hl := lv_entry ([.ref (ad 99), .int x1, .int x2, .int x3]) (n := 7) (Nat.le_of_ble_eq_true rfl)
  rw [lg_entry_eq]
  generalize (lg_sl ([.ref (ad 99), .int x1, .int x2, .int x3]) ++ List.replicate (7 - (lg_sl ([.ref (ad 99), .int x1, .int x2, .int x3])).length) Slot.unset).toArray = ls at hl ⊢
  have hl : lv_has ls 7 [(0, .ref (ad 99)), (1, .int (x1)), (2, .int (x2)), (3, .int (x3))] := hl
  have j16 : ∀ n16 : Nat, ∀ (F : Nat → Int32) (G : Nat → Nat → Int32) (x4 : Int32) (x5 : Int32) (H : Heap) (locs : List Loc) , va_P D vwCl (mW cI cZ ad F G) H → va_S (mA cI cZ ad) s.heap H locs → ∀ ls : Array Slot, lv_has ls 7 [(0, .ref (ad 99)), (1, .int (x1)), (2, .int (x2)), (3, .int (x3)), (4, .int (x4)), (5, .int (x5))] → f_X5_worksRow_L16 x1 x2 x3 n16 F G x4 x5 = some (rv, Fz, Gz) → W p l e (headSpec wsX5_worksRow ({ frames := 4, cells := 0, slots := 0, locals := 98 } : Room)).room s m (List.toArray ([.ref (ad 99), .int x1, .int x2, .int x3] : List Value)) below meth c H locs 0 0 (MQ below (va_Qi (fun z (_ : Unit) => z = rv) (fun _ t => va_P D vwCl (mW cI cZ ad Fz Gz) t.heap) (mA cI cZ ad)) (List.toArray ([.ref (ad 99), .int x1, .int x2, .int x3] : List Value)) s 0 0 (mA cI cZ ad)) (F0 m 16 ls []) := by
    intro n16
    induction n16 with
    | zero =>
      intro F G x4 x5 H locs hP hS ls hl h
      cases h
    | succ n16 ih16 =>
      have j86 : ∀ (F : Nat → Int32) (G : Nat → Nat → Int32) (x4 : Int32) (x5 : Int32) (H : Heap) (locs : List Loc) , va_P D vwCl (mW cI cZ ad F G) H → va_S (mA cI cZ ad) s.heap H locs → ∀ ls : Array Slot, lv_has ls 7 [(0, .ref (ad 99)), (1, .int (x1)), (2, .int (x2)), (3, .int (x3)), (4, .int (x4)), (5, .int (x5))] → f_X5_worksRow_B86 (f_X5_worksRow_L16 x1 x2 x3 n16) x1 x2 x3 F G x4 x5 = some (rv, Fz, Gz) → W p l e (headSpec wsX5_worksRow ({ frames := 4, cells := 0, slots := 0, locals := 98 } : Room)).room s m (List.toArray ([.ref (ad 99), .int x1, .int x2, .int x3] : List Value)) below meth c H locs 0 0 (MQ below (va_Qi (fun z (_ : Unit) => z = rv) (fun _ t => va_P D vwCl (mW cI cZ ad Fz Gz) t.heap) (mA cI cZ ad)) (List.toArray ([.ref (ad 99), .int x1, .int x2, .int x3] : List Value)) s 0 0 (mA cI cZ ad)) (F0 m 86 ls []) := by
        intro F G x4 x5 H locs hP hS ls hl h
        refine q_iinc (j := 5) (d := (1 : Int32)) (lv2 := fun v1 => [(5, .int (v1)), (0, .ref (ad 99)), (1, .int (x1)), (2, .int (x2)), (3, .int (x3)), (4, .int (x4))]) hx hb dX5_worksRow_86 hl rfl (by decide) (by decide) (fun _ => rfl) h (fun v1 ls hl h => ?_)
        refine lv_goto (tgt := 16) hx hb dX5_worksRow_89 (by decide) ?_
        exact ih16 F G x4 v1 _ _ hP hS _ (lv_sub hl [1, 2, 3, 4, 5, 0] rfl) h
      have j78 : ∀ (F : Nat → Int32) (G : Nat → Nat → Int32) (x4 : Int32) (x5 : Int32) (s1 : Int32) (s2 : Int32) (s3 : Int32) (s4 : Int32) (H : Heap) (locs : List Loc) , va_P D vwCl (mW cI cZ ad F G) H → va_S (mA cI cZ ad) s.heap H locs → ∀ ls : Array Slot, lv_has ls 7 [(0, .ref (ad 99)), (1, .int (x1)), (2, .int (x2)), (3, .int (x3)), (4, .int (x4)), (5, .int (x5))] → f_X5_worksRow_B78 (f_X5_worksRow_L16 x1 x2 x3 n16) x1 x2 x3 F G x4 x5 s1 s2 s3 s4 = some (rv, Fz, Gz) → W p l e (headSpec wsX5_worksRow ({ frames := 4, cells := 0, slots := 0, locals := 98 } : Room)).room s m (List.toArray ([.ref (ad 99), .int x1, .int x2, .int x3] : List Value)) below meth c H locs 0 0 (MQ below (va_Qi (fun z (_ : Unit) => z = rv) (fun _ t => va_P D vwCl (mW cI cZ ad Fz Gz) t.heap) (mA cI cZ ad)) (List.toArray ([.ref (ad 99), .int x1, .int x2, .int x3] : List Value)) s 0 0 (mA cI cZ ad)) (F0 m 78 ls [.int (s4), .int (s3), .int (s2), .int (s1), .ref (ad 99)]) := by
        intro F G x4 x5 s1 s2 s3 s4 H locs hP hS ls hl h
        obtain ⟨⟨v2, F3, G4⟩, hc5, h⟩ := q_some h
        refine q_ci (va_runV (C := RX5) (As := [.int (s1), .int (s2), .int (s3), .int (s4)]) (rest := []) ⟨hx, hb, hml, hown, hts⟩ (mt_X5_picks l D cI cZ ad F G s1 s2 s3 s4 v2 F3 G4 hDD hc5) (cwV 4 hts gX5_worksRow_X5_picks rfl rfl rfl (by decide +kernel) ⟨Nat.le_of_ble_eq_true rfl, Nat.le_of_ble_eq_true rfl⟩) ⟨mR_b, va_recv hK hP (ci := 5) (q0 := 0) rfl rfl, (mR_p hP hK hN).2⟩ rfl rfl hl.1 rfl (lv_room (Nat.le_of_ble_eq_true rfl)) dX5_worksRow_78 ⟨Nat.le_of_ble_eq_true rfl, Nat.le_of_ble_eq_true rfl⟩) hS (fun H locs hP hS => ?_)
        refine q_if_ne (tgt := 86) hx hb dX5_worksRow_81 (by decide) h (fun h => ?_) (fun h => ?_)
        · exact j86 F3 G4 x4 x5 _ _ hP hS _ (lv_sub hl [0, 1, 2, 3, 4, 5] rfl) h
        · refine lv_iconst (v := 0) hx hb dX5_worksRow_84 (by decide) ?_
          have e1 := congrArg Prod.fst (Option.some.inj h)
          have e2 := congrArg (fun z => z.2.1) (Option.some.inj h)
          have e3 := congrArg (fun z => z.2.2) (Option.some.inj h)
          dsimp only at e1 e2 e3
          exact W.zret hx hb hr rfl (fun t ht hW => ⟨⟨_, (), rfl, e1, by show va_P D vwCl _ t.heap; rw [ht, ← e2, ← e3]; exact hP⟩, hS.F ht⟩) hS.2.2 dX5_worksRow_85
      have j43 : ∀ (F : Nat → Int32) (G : Nat → Nat → Int32) (x4 : Int32) (x5 : Int32) (s0 : Int32) (H : Heap) (locs : List Loc) , va_P D vwCl (mW cI cZ ad F G) H → va_S (mA cI cZ ad) s.heap H locs → ∀ ls : Array Slot, lv_has ls 7 [(0, .ref (ad 99)), (1, .int (x1)), (2, .int (x2)), (3, .int (x3)), (4, .int (x4)), (5, .int (x5))] → f_X5_worksRow_B43 (f_X5_worksRow_L16 x1 x2 x3 n16) x1 x2 x3 F G x4 x5 s0 = some (rv, Fz, Gz) → W p l e (headSpec wsX5_worksRow ({ frames := 4, cells := 0, slots := 0, locals := 98 } : Room)).room s m (List.toArray ([.ref (ad 99), .int x1, .int x2, .int x3] : List Value)) below meth c H locs 0 0 (MQ below (va_Qi (fun z (_ : Unit) => z = rv) (fun _ t => va_P D vwCl (mW cI cZ ad Fz Gz) t.heap) (mA cI cZ ad)) (List.toArray ([.ref (ad 99), .int x1, .int x2, .int x3] : List Value)) s 0 0 (mA cI cZ ad)) (F0 m 43 ls [.int (s0)]) := by
        intro F G x4 x5 s0 H locs hP hS ls hl h
        refine lv_istore (lv' := [(6, .int (s0)), (0, .ref (ad 99)), (1, .int (x1)), (2, .int (x2)), (3, .int (x3)), (4, .int (x4)), (5, .int (x5))]) hx hb dX5_worksRow_43 hl (by decide) rfl (fun ls hl => ?_)
        refine lv_aload_n hx hb dX5_worksRow_45 rfl (lv_at hl 1 rfl) ?_
        refine va_get hx hb hts hi_X5_worksRow_X5 hown hK hP 0 (m_o99 cI cZ ad F G) rfl 0 (by decide) (hts _ (List.mem_of_getElem? (i := 2) rfl)) (fun _ h9 => h9) rfl dX5_worksRow_46 ?_
        refine lv_bipush (v := 12) hx hb dX5_worksRow_49 (by decide) ?_
        refine lv_iload_n hx hb dX5_worksRow_51 rfl (lv_at hl 2 rfl) ?_
        refine lv_imul hx hb dX5_worksRow_52 ?_
        refine lv_iload hx hb dX5_worksRow_53 (lv_at hl 0 rfl) ?_
        refine lv_iadd hx hb dX5_worksRow_55 ?_
        refine q_ld hx hb hK hP 1 0 (m_a0 cI cZ ad F G) rfl dX5_worksRow_56 h (fun v6 h => ?_)
        refine lv_iconst (v := -1) hx hb dX5_worksRow_57 (by decide) ?_
        refine q_icmp_eq (tgt := 86) hx hb dX5_worksRow_58 (by decide) h (fun h => ?_) (fun h => ?_)
        · exact j86 F G x4 x5 _ _ hP hS _ (lv_sub hl [1, 2, 3, 4, 5, 6] rfl) h
        · refine lv_aload_n hx hb dX5_worksRow_61 rfl (lv_at hl 1 rfl) ?_
          refine lv_iload_n hx hb dX5_worksRow_62 rfl (lv_at hl 2 rfl) ?_
          refine lv_iload hx hb dX5_worksRow_63 (lv_at hl 0 rfl) ?_
          refine lv_iload_n hx hb dX5_worksRow_65 rfl (lv_at hl 3 rfl) ?_
          refine lv_iload hx hb dX5_worksRow_66 (lv_at hl 0 rfl) ?_
          refine lv_iload hx hb dX5_worksRow_68 (lv_at hl 5 rfl) ?_
          refine q_icmp_ne (tgt := 77) hx hb dX5_worksRow_70 (by decide) h (fun h => ?_) (fun h => ?_)
          · refine lv_iconst (v := 0) hx hb dX5_worksRow_77 (by decide) ?_
            exact j78 F G x4 x5 x1 s0 x2 (0 : Int32) _ _ hP hS _ (lv_sub hl [1, 2, 3, 4, 5, 6] rfl) h
          · refine lv_iconst (v := 1) hx hb dX5_worksRow_73 (by decide) ?_
            refine lv_goto (tgt := 78) hx hb dX5_worksRow_74 (by decide) ?_
            exact j78 F G x4 x5 x1 s0 x2 (1 : Int32) _ _ hP hS _ (lv_sub hl [1, 2, 3, 4, 5, 6] rfl) h
      intro F G x4 x5 H locs hP hS ls hl h
      replace h : f_X5_worksRow_L16_b (f_X5_worksRow_L16 x1 x2 x3 n16) x1 x2 x3 F G x4 x5 = some (rv, Fz, Gz) := h
      refine lv_iload hx hb dX5_worksRow_16 (lv_at hl 5 rfl) ?_
      refine lv_aload_n hx hb dX5_worksRow_18 rfl (lv_at hl 0 rfl) ?_
      obtain ⟨v7, hc8, h⟩ := q_some h
      refine q_cs (W.runV (C := RX5) (As := []) (rest := [.int (x5)]) ⟨hx, hb, hml, hown, hts⟩ (mt_X5_columns l D cI cZ ad F G  v7 hc8) (cwV 0 hts gX5_worksRow_X5_columns rfl rfl rfl (by decide +kernel) ⟨Nat.le_of_ble_eq_true rfl, Nat.le_of_ble_eq_true rfl⟩) ⟨mR_b, va_recv hK hP (ci := 5) (q0 := 0) rfl rfl, (mR_p hP hK hN).2⟩ rfl rfl hl.1 rfl (lv_room (Nat.le_of_ble_eq_true rfl)) dX5_worksRow_19 ⟨Nat.le_of_ble_eq_true rfl, Nat.le_of_ble_eq_true rfl⟩) ?_
      refine q_icmp_ge (tgt := 92) hx hb dX5_worksRow_22 (by decide) h (fun h => ?_) (fun h => ?_)
      · refine lv_iconst (v := 1) hx hb dX5_worksRow_92 (by decide) ?_
        have e1 := congrArg Prod.fst (Option.some.inj h)
        have e2 := congrArg (fun z => z.2.1) (Option.some.inj h)
        have e3 := congrArg (fun z => z.2.2) (Option.some.inj h)
        dsimp only at e1 e2 e3
        exact W.zret hx hb hr rfl (fun t ht hW => ⟨⟨_, (), rfl, e1, by show va_P D vwCl _ t.heap; rw [ht, ← e2, ← e3]; exact hP⟩, hS.F ht⟩) hS.2.2 dX5_worksRow_93
      · refine lv_iload_n hx hb dX5_worksRow_25 rfl (lv_at hl 3 rfl) ?_
        refine q_if_eq (tgt := 34) hx hb dX5_worksRow_26 (by decide) h (fun h => ?_) (fun h => ?_)
        · refine lv_aload_n hx hb dX5_worksRow_34 rfl (lv_at hl 0 rfl) ?_
          obtain ⟨v9, hc10, h⟩ := q_some h
          refine q_cs (W.runV (C := RX5) (As := []) (rest := []) ⟨hx, hb, hml, hown, hts⟩ (mt_X5_columns l D cI cZ ad F G  v9 hc10) (cwV 0 hts gX5_worksRow_X5_columns rfl rfl rfl (by decide +kernel) ⟨Nat.le_of_ble_eq_true rfl, Nat.le_of_ble_eq_true rfl⟩) ⟨mR_b, va_recv hK hP (ci := 5) (q0 := 0) rfl rfl, (mR_p hP hK hN).2⟩ rfl rfl hl.1 rfl (lv_room (Nat.le_of_ble_eq_true rfl)) dX5_worksRow_35 ⟨Nat.le_of_ble_eq_true rfl, Nat.le_of_ble_eq_true rfl⟩) ?_
          refine lv_iconst (v := 1) hx hb dX5_worksRow_38 (by decide) ?_
          refine lv_isub hx hb dX5_worksRow_39 ?_
          refine lv_iload hx hb dX5_worksRow_40 (lv_at hl 5 rfl) ?_
          refine lv_isub hx hb dX5_worksRow_42 ?_
          exact j43 F G x4 x5 (((v9 - (1 : Int32)) - x5)) _ _ hP hS _ (lv_sub hl [0, 1, 2, 3, 4, 5] rfl) h
        · refine lv_iload hx hb dX5_worksRow_29 (lv_at hl 5 rfl) ?_
          refine lv_goto (tgt := 43) hx hb dX5_worksRow_31 (by decide) ?_
          exact j43 F G x4 x5 x5 _ _ hP hS _ (lv_sub hl [0, 1, 2, 3, 4, 5] rfl) h
  refine lv_aload_n hx hb dX5_worksRow_0 rfl (lv_at hl 0 rfl) ?_
  refine lv_iload_n hx hb dX5_worksRow_1 rfl (lv_at hl 1 rfl) ?_
  refine lv_iload_n hx hb dX5_worksRow_2 rfl (lv_at hl 3 rfl) ?_
  obtain ⟨v11, hc12, h⟩ := q_some h
  refine q_cs (W.runV (C := RX5) (As := [.int (x1), .int (x3)]) (rest := []) ⟨hx, hb, hml, hown, hts⟩ (mt_X5_lastColumn l D cI cZ ad F G x1 x3 v11 hc12) (cwV 2 hts gX5_worksRow_X5_lastColumn rfl rfl rfl (by decide +kernel) ⟨Nat.le_of_ble_eq_true rfl, Nat.le_of_ble_eq_true rfl⟩) ⟨mR_b, va_recv hK hP (ci := 5) (q0 := 0) rfl rfl, (mR_p hP hK hN).2⟩ rfl rfl hl.1 rfl (lv_room (Nat.le_of_ble_eq_true rfl)) dX5_worksRow_3 ⟨Nat.le_of_ble_eq_true rfl, Nat.le_of_ble_eq_true rfl⟩) ?_
  refine lv_istore (lv' := [(4, .int (v11)), (0, .ref (ad 99)), (1, .int (x1)), (2, .int (x2)), (3, .int (x3))]) hx hb dX5_worksRow_6 hl (by decide) rfl (fun ls hl => ?_)
  refine lv_aload_n hx hb dX5_worksRow_8 rfl (lv_at hl 1 rfl) ?_
  refine lv_iconst (v := 0) hx hb dX5_worksRow_9 (by decide) ?_
  refine q_put (ty := .int) hx hb hts hi_X5_worksRow_X5 tyX5 tyX5_ok nmX5 hown hK hP (mW_D hDD _ _) hS 0 25 (fun z => mW cI cZ ad z G) (m_o99 cI cZ ad F G) rfl 25 (by decide) (hts _ (List.mem_of_getElem? (i := 1) rfl)) (fun _ h9 => h9) rfl (by decide +kernel) rfl rfl (Nat.le_of_ble_eq_true rfl) (m_f25 cI cZ ad F G _) dX5_worksRow_10 h (fun F13 H locs h hP hS => ?_)
  refine lv_iconst (v := 0) hx hb dX5_worksRow_13 (by decide) ?_
  refine q_nm h (fun v14 h => ?_)
  refine lv_istore (lv' := [(5, .int (v14)), (4, .int (v11)), (0, .ref (ad 99)), (1, .int (x1)), (2, .int (x2)), (3, .int (x3))]) hx hb dX5_worksRow_14 hl (by decide) rfl (fun ls hl => ?_)
  exact j16 1000 F13 G v11 v14 _ _ hP hS _ (lv_sub hl [2, 3, 4, 5, 1, 0] rfl) h
theorem hi_X5_tries_X5 : ∀ w ∈ u_ws RX5 TX5 48, w ∈ wsX5_tries := fun w h => (List.mem_cons_of_mem _ (List.mem_append_right _ h))
set_option maxHeartbeats 4000000 in
set_option maxRecDepth 100000 in
theorem mt_X5_tries (l : Launch) (D : va_G) (cI cZ : ClassId) (ad : Nat → Nat) (F : Nat → Int32) (G : Nat → Nat → Int32) (x1 : Int32) (Fz : Nat → Int32) (Gz : Nat → Nat → Int32) (hDD : va_D (fun _ => True) (mW cI cZ ad (fun _ => 0) (fun _ _ => 0))) (h : f_X5_tries F G x1 = some (Fz, Gz)) : Met l yX5_tries wsX5_tries ({ frames := 5, cells := 0, slots := 0, locals := 124 } : Room) (va_Pc [.ref (ad 99), .int x1] (mR D cI cZ ad F G)) (va_Qv (fun (_ : Unit) => True) (fun _ t => va_P D vwCl (mW cI cZ ad Fz Gz) t.heap) (mA cI cZ ad)) 0 0 (mA cI cZ ad) := by
  refine Met.ofW (cc := cX5_tries) (maxL := 7) (ret := none) (by decide) rfl ?_
  intro p e s m args below meth c s₁ B hml hv
  obtain ⟨rfl, hP, hK, hN⟩ := hv
  have hx := B.exec
  have hb := B.bytes
  have hr := B.returns
  have hts := atoms_spec (ws := wsX5_tries) B.pre
  have hown : s.vm.findClass RX5 = some m.cls := findClass_of_methodNamed B.named
  have hlocks := B.notSynchronized
  have hS : va_S (mA cI cZ ad) s.heap s.heap [] := va_S.rf
  have hl := lv_entry ([.ref (ad 99), .int x1]) (n := 7) (Nat.le_of_ble_eq_true rfl)
  rw [lg_entry_eq]
  generalize (lg_sl ([.ref (ad 99), .int x1]) ++ List.replicate (7 - (lg_sl ([.ref (ad 99), .int x1])).length) Slot.unset).toArray = ls at hl ⊢
  have hl : lv_has ls 7 [(0, .ref (ad 99)), (1, .int (x1))] := hl
  have j86 : ∀ n86 : Nat, ∀ (F : Nat → Int32) (G : Nat → Nat → Int32) (x2 : Int32) (x3 : Int32) (x4 : Int32) (x5 : Int32) (H : Heap) (locs : List Loc) , va_P D vwCl (mW cI cZ ad F G) H → va_S (mA cI cZ ad) s.heap H locs → ∀ ls : Array Slot, lv_has ls 7 [(0, .ref (ad 99)), (2, .int (x2)), (3, .int (x3)), (4, .int (x4)), (5, .int (x5))] → f_X5_tries_L86 x1 n86 F G x2 x3 x4 x5 = some (Fz, Gz) → W p l e (headSpec wsX5_tries ({ frames := 5, cells := 0, slots := 0, locals := 124 } : Room)).room s m (List.toArray ([.ref (ad 99), .int x1] : List Value)) below meth c H locs 0 0 (MQ below (va_Qv (fun (_ : Unit) => True) (fun _ t => va_P D vwCl (mW cI cZ ad Fz Gz) t.heap) (mA cI cZ ad)) (List.toArray ([.ref (ad 99), .int x1] : List Value)) s 0 0 (mA cI cZ ad)) (F0 m 86 ls []) := by
    intro n86
    induction n86 with
    | zero =>
      intro F G x2 x3 x4 x5 H locs hP hS ls hl h
      cases h
    | succ n86 ih86 =>
      have j182 : ∀ (F : Nat → Int32) (G : Nat → Nat → Int32) (x2 : Int32) (x3 : Int32) (x4 : Int32) (x5 : Int32) (H : Heap) (locs : List Loc) , va_P D vwCl (mW cI cZ ad F G) H → va_S (mA cI cZ ad) s.heap H locs → ∀ ls : Array Slot, lv_has ls 7 [(0, .ref (ad 99)), (2, .int (x2)), (3, .int (x3)), (4, .int (x4)), (5, .int (x5))] → f_X5_tries_B182 (f_X5_tries_L86 x1 n86) x1 F G x2 x3 x4 x5 = some (Fz, Gz) → W p l e (headSpec wsX5_tries ({ frames := 5, cells := 0, slots := 0, locals := 124 } : Room)).room s m (List.toArray ([.ref (ad 99), .int x1] : List Value)) below meth c H locs 0 0 (MQ below (va_Qv (fun (_ : Unit) => True) (fun _ t => va_P D vwCl (mW cI cZ ad Fz Gz) t.heap) (mA cI cZ ad)) (List.toArray ([.ref (ad 99), .int x1] : List Value)) s 0 0 (mA cI cZ ad)) (F0 m 182 ls []) := by
        intro F G x2 x3 x4 x5 H locs hP hS ls hl h
        refine q_iinc (j := 4) (d := (1 : Int32)) (lv2 := fun v1 => [(5, .int (v1)), (0, .ref (ad 99)), (2, .int (x2)), (3, .int (x3)), (4, .int (x4))]) hx hb dX5_tries_182 hl rfl (by decide) (by decide) (fun _ => rfl) h (fun v1 ls hl h => ?_)
        refine lv_goto (tgt := 86) hx hb dX5_tries_185 (by decide) ?_
        exact ih86 F G x2 x3 x4 v1 _ _ hP hS _ (lv_sub hl [1, 2, 3, 4, 0] rfl) h
      have j181 : ∀ (F : Nat → Int32) (G : Nat → Nat → Int32) (x2 : Int32) (x4 : Int32) (x5 : Int32) (s0 : Int32) (H : Heap) (locs : List Loc) , va_P D vwCl (mW cI cZ ad F G) H → va_S (mA cI cZ ad) s.heap H locs → ∀ ls : Array Slot, lv_has ls 7 [(0, .ref (ad 99)), (2, .int (x2)), (4, .int (x4)), (5, .int (x5))] → f_X5_tries_B181 (f_X5_tries_L86 x1 n86) x1 F G x2 x4 x5 s0 = some (Fz, Gz) → W p l e (headSpec wsX5_tries ({ frames := 5, cells := 0, slots := 0, locals := 124 } : Room)).room s m (List.toArray ([.ref (ad 99), .int x1] : List Value)) below meth c H locs 0 0 (MQ below (va_Qv (fun (_ : Unit) => True) (fun _ t => va_P D vwCl (mW cI cZ ad Fz Gz) t.heap) (mA cI cZ ad)) (List.toArray ([.ref (ad 99), .int x1] : List Value)) s 0 0 (mA cI cZ ad)) (F0 m 181 ls [.int (s0)]) := by
        intro F G x2 x4 x5 s0 H locs hP hS ls hl h
        refine lv_istore_n (lv' := [(3, .int (s0)), (0, .ref (ad 99)), (2, .int (x2)), (4, .int (x4)), (5, .int (x5))]) hx hb dX5_tries_181 rfl hl (by decide) rfl (fun ls hl => ?_)
        exact j182 F G x2 s0 x4 x5 _ _ hP hS _ (lv_sub hl [1, 2, 0, 3, 4] rfl) h
      have j146 : ∀ (F : Nat → Int32) (G : Nat → Nat → Int32) (x2 : Int32) (x3 : Int32) (x5 : Int32) (s1 : Int32) (s2 : Int32) (H : Heap) (locs : List Loc) , va_P D vwCl (mW cI cZ ad F G) H → va_S (mA cI cZ ad) s.heap H locs → ∀ ls : Array Slot, lv_has ls 7 [(0, .ref (ad 99)), (2, .int (x2)), (3, .int (x3)), (5, .int (x5))] → f_X5_tries_B146 (f_X5_tries_L86 x1 n86) x1 F G x2 x3 x5 s1 s2 = some (Fz, Gz) → W p l e (headSpec wsX5_tries ({ frames := 5, cells := 0, slots := 0, locals := 124 } : Room)).room s m (List.toArray ([.ref (ad 99), .int x1] : List Value)) below meth c H locs 0 0 (MQ below (va_Qv (fun (_ : Unit) => True) (fun _ t => va_P D vwCl (mW cI cZ ad Fz Gz) t.heap) (mA cI cZ ad)) (List.toArray ([.ref (ad 99), .int x1] : List Value)) s 0 0 (mA cI cZ ad)) (F0 m 146 ls [.int (s2), .int (s1), .ref (ad 99)]) := by
        intro F G x2 x3 x5 s1 s2 H locs hP hS ls hl h
        refine lv_iload_n hx hb dX5_tries_146 rfl (lv_at hl 2 rfl) ?_
        obtain ⟨⟨v2, F3, G4⟩, hc5, h⟩ := q_some h
        refine q_ci (va_runV (C := RX5) (As := [.int (s1), .int (s2), .int (x3)]) (rest := []) ⟨hx, hb, hml, hown, hts⟩ (mt_X5_worksRow l D cI cZ ad F G s1 s2 x3 v2 F3 G4 hDD hc5) (cwV 3 hts gX5_tries_X5_worksRow rfl rfl rfl (by decide +kernel) ⟨Nat.le_of_ble_eq_true rfl, Nat.le_of_ble_eq_true rfl⟩) ⟨mR_b, va_recv hK hP (ci := 5) (q0 := 0) rfl rfl, (mR_p hP hK hN).2⟩ rfl rfl hl.1 rfl (lv_room (Nat.le_of_ble_eq_true rfl)) dX5_tries_147 ⟨Nat.le_of_ble_eq_true rfl, Nat.le_of_ble_eq_true rfl⟩) hS (fun H locs hP hS => ?_)
        refine lv_istore (lv' := [(4, .int (v2)), (0, .ref (ad 99)), (2, .int (x2)), (3, .int (x3)), (5, .int (x5))]) hx hb dX5_tries_150 hl (by decide) rfl (fun ls hl => ?_)
        refine lv_aload_n hx hb dX5_tries_152 rfl (lv_at hl 1 rfl) ?_
        refine lv_aload_n hx hb dX5_tries_153 rfl (lv_at hl 1 rfl) ?_
        refine va_get hx hb hts hi_X5_tries_X5 hown hK hP 0 (m_o99 cI cZ ad F3 G4) rfl 23 (by decide) (hts _ (List.mem_of_getElem? (i := 9) rfl)) (fun _ h9 => h9) rfl dX5_tries_154 ?_
        refine q_put (ty := .int) hx hb hts hi_X5_tries_X5 tyX5 tyX5_ok nmX5 hown hK hP (mW_D hDD _ _) hS 0 24 (fun z => mW cI cZ ad z G4) (m_o99 cI cZ ad F3 G4) rfl 24 (by decide) (hts _ (List.mem_of_getElem? (i := 10) rfl)) (fun _ h9 => h9) rfl (by decide +kernel) rfl rfl (Nat.le_of_ble_eq_true rfl) (m_f24 cI cZ ad F3 G4 _) dX5_tries_157 h (fun F6 H locs h hP hS => ?_)
        refine lv_aload_n hx hb dX5_tries_160 rfl (lv_at hl 1 rfl) ?_
        refine lv_iconst (v := 0) hx hb dX5_tries_161 (by decide) ?_
        refine q_put (ty := .boolean) hx hb hts hi_X5_tries_X5 tyX5 tyX5_ok nmX5 hown hK hP (mW_D hDD _ _) hS 0 26 (fun z => mW cI cZ ad z G4) (m_o99 cI cZ ad F6 G4) rfl 26 (by decide) (hts _ (List.mem_of_getElem? (i := 8) rfl)) (fun _ h9 => h9) rfl (by decide +kernel) rfl rfl (Nat.le_of_ble_eq_true rfl) (m_f26 cI cZ ad F6 G4 _) dX5_tries_162 h (fun F7 H locs h hP hS => ?_)
        refine lv_aload_n hx hb dX5_tries_165 rfl (lv_at hl 1 rfl) ?_
        refine va_get hx hb hts hi_X5_tries_X5 hown hK hP 0 (m_o99 cI cZ ad F7 G4) rfl 2 (by decide) (hts _ (List.mem_of_getElem? (i := 11) rfl)) (fun _ h9 => h9) rfl dX5_tries_166 ?_
        refine q_if_ne (tgt := 182) hx hb dX5_tries_169 (by decide) h (fun h => ?_) (fun h => ?_)
        · exact j182 F7 G4 x2 x3 v2 x5 _ _ hP hS _ (lv_sub hl [1, 2, 3, 0, 4] rfl) h
        · refine lv_iload_n hx hb dX5_tries_172 rfl (lv_at hl 3 rfl) ?_
          refine q_if_ne (tgt := 180) hx hb dX5_tries_173 (by decide) h (fun h => ?_) (fun h => ?_)
          · refine lv_iconst (v := 0) hx hb dX5_tries_180 (by decide) ?_
            exact j181 F7 G4 x2 v2 x5 (0 : Int32) _ _ hP hS _ (lv_sub hl [1, 2, 0, 4] rfl) h
          · refine lv_iconst (v := 1) hx hb dX5_tries_176 (by decide) ?_
            refine lv_goto (tgt := 181) hx hb dX5_tries_177 (by decide) ?_
            exact j181 F7 G4 x2 v2 x5 (1 : Int32) _ _ hP hS _ (lv_sub hl [1, 2, 0, 4] rfl) h
      have j112 : ∀ (F : Nat → Int32) (G : Nat → Nat → Int32) (x2 : Int32) (x3 : Int32) (x4 : Int32) (x5 : Int32) (s0 : Int32) (H : Heap) (locs : List Loc) , va_P D vwCl (mW cI cZ ad F G) H → va_S (mA cI cZ ad) s.heap H locs → ∀ ls : Array Slot, lv_has ls 7 [(0, .ref (ad 99)), (2, .int (x2)), (3, .int (x3)), (4, .int (x4)), (5, .int (x5))] → f_X5_tries_B112 (f_X5_tries_L86 x1 n86) x1 F G x2 x3 x4 x5 s0 = some (Fz, Gz) → W p l e (headSpec wsX5_tries ({ frames := 5, cells := 0, slots := 0, locals := 124 } : Room)).room s m (List.toArray ([.ref (ad 99), .int x1] : List Value)) below meth c H locs 0 0 (MQ below (va_Qv (fun (_ : Unit) => True) (fun _ t => va_P D vwCl (mW cI cZ ad Fz Gz) t.heap) (mA cI cZ ad)) (List.toArray ([.ref (ad 99), .int x1] : List Value)) s 0 0 (mA cI cZ ad)) (F0 m 112 ls [.int (s0)]) := by
        intro F G x2 x3 x4 x5 s0 H locs hP hS ls hl h
        refine lv_istore (lv' := [(6, .int (s0)), (0, .ref (ad 99)), (2, .int (x2)), (3, .int (x3)), (4, .int (x4)), (5, .int (x5))]) hx hb dX5_tries_112 hl (by decide) rfl (fun ls hl => ?_)
        refine lv_aload_n hx hb dX5_tries_114 rfl (lv_at hl 1 rfl) ?_
        refine lv_iload hx hb dX5_tries_115 (lv_at hl 0 rfl) ?_
        refine lv_iconst (v := 1) hx hb dX5_tries_117 (by decide) ?_
        obtain ⟨v8, hc9, h⟩ := q_some h
        refine q_cs (W.runV (C := RX5) (As := [.int (s0), .int ((1 : Int32))]) (rest := []) ⟨hx, hb, hml, hown, hts⟩ (mt_X5_lastColumn l D cI cZ ad F G s0 (1 : Int32) v8 hc9) (cwV 2 hts gX5_tries_X5_lastColumn rfl rfl rfl (by decide +kernel) ⟨Nat.le_of_ble_eq_true rfl, Nat.le_of_ble_eq_true rfl⟩) ⟨mR_b, va_recv hK hP (ci := 5) (q0 := 0) rfl rfl, (mR_p hP hK hN).2⟩ rfl rfl hl.1 rfl (lv_room (Nat.le_of_ble_eq_true rfl)) dX5_tries_118 ⟨Nat.le_of_ble_eq_true rfl, Nat.le_of_ble_eq_true rfl⟩) ?_
        refine lv_iconst (v := -1) hx hb dX5_tries_121 (by decide) ?_
        refine q_icmp_ne (tgt := 128) hx hb dX5_tries_122 (by decide) h (fun h => ?_) (fun h => ?_)
        · refine lv_aload_n hx hb dX5_tries_128 rfl (lv_at hl 1 rfl) ?_
          refine lv_iload hx hb dX5_tries_129 (lv_at hl 0 rfl) ?_
          refine lv_iload_n hx hb dX5_tries_131 rfl (lv_at hl 2 rfl) ?_
          refine q_if_eq (tgt := 142) hx hb dX5_tries_132 (by decide) h (fun h => ?_) (fun h => ?_)
          · refine lv_iload hx hb dX5_tries_142 (lv_at hl 0 rfl) ?_
            refine lv_iconst (v := 1) hx hb dX5_tries_144 (by decide) ?_
            refine lv_iadd hx hb dX5_tries_145 ?_
            exact j146 F G x2 x3 x5 s0 ((s0 + (1 : Int32))) _ _ hP hS _ (lv_sub hl [1, 2, 3, 5] rfl) h
          · refine lv_iload hx hb dX5_tries_135 (lv_at hl 0 rfl) ?_
            refine lv_iconst (v := 1) hx hb dX5_tries_137 (by decide) ?_
            refine lv_isub hx hb dX5_tries_138 ?_
            refine lv_goto (tgt := 146) hx hb dX5_tries_139 (by decide) ?_
            exact j146 F G x2 x3 x5 s0 ((s0 - (1 : Int32))) _ _ hP hS _ (lv_sub hl [1, 2, 3, 5] rfl) h
        · refine lv_goto (tgt := 182) hx hb dX5_tries_125 (by decide) ?_
          exact j182 F G x2 x3 x4 x5 _ _ hP hS _ (lv_sub hl [1, 2, 3, 4, 5] rfl) h
      intro F G x2 x3 x4 x5 H locs hP hS ls hl h
      replace h : f_X5_tries_L86_b (f_X5_tries_L86 x1 n86) x1 F G x2 x3 x4 x5 = some (Fz, Gz) := h
      refine lv_iload hx hb dX5_tries_86 (lv_at hl 4 rfl) ?_
      refine lv_bipush (v := 12) hx hb dX5_tries_88 (by decide) ?_
      refine q_icmp_ge (tgt := 188) hx hb dX5_tries_90 (by decide) h (fun h => ?_) (fun h => ?_)
      · have e2 := congrArg Prod.fst (Option.some.inj h)
        have e3 := congrArg Prod.snd (Option.some.inj h)
        dsimp only at e2 e3
        exact W.vret hx hb hr (fun t ht hW => ⟨⟨(), rfl, trivial, by show va_P D vwCl _ t.heap; rw [ht, ← e2, ← e3]; exact hP⟩, hS.F ht⟩) hS.2.2 dX5_tries_188
      · refine lv_iload hx hb dX5_tries_93 (lv_at hl 3 rfl) ?_
        refine q_if_eq (tgt := 188) hx hb dX5_tries_95 (by decide) h (fun h => ?_) (fun h => ?_)
        · have e2 := congrArg Prod.fst (Option.some.inj h)
          have e3 := congrArg Prod.snd (Option.some.inj h)
          dsimp only at e2 e3
          exact W.vret hx hb hr (fun t ht hW => ⟨⟨(), rfl, trivial, by show va_P D vwCl _ t.heap; rw [ht, ← e2, ← e3]; exact hP⟩, hS.F ht⟩) hS.2.2 dX5_tries_188
        · refine lv_iload_n hx hb dX5_tries_98 rfl (lv_at hl 1 rfl) ?_
          refine q_if_eq (tgt := 107) hx hb dX5_tries_99 (by decide) h (fun h => ?_) (fun h => ?_)
          · refine lv_bipush (v := 11) hx hb dX5_tries_107 (by decide) ?_
            refine lv_iload hx hb dX5_tries_109 (lv_at hl 4 rfl) ?_
            refine lv_isub hx hb dX5_tries_111 ?_
            exact j112 F G x2 x3 x4 x5 (((11 : Int32) - x5)) _ _ hP hS _ (lv_sub hl [0, 1, 2, 3, 4] rfl) h
          · refine lv_iload hx hb dX5_tries_102 (lv_at hl 4 rfl) ?_
            refine lv_goto (tgt := 112) hx hb dX5_tries_104 (by decide) ?_
            exact j112 F G x2 x3 x4 x5 x5 _ _ hP hS _ (lv_sub hl [0, 1, 2, 3, 4] rfl) h
  have j74 : ∀ (F : Nat → Int32) (G : Nat → Nat → Int32) (x2 : Int32) (s0 : Int32) (H : Heap) (locs : List Loc) , va_P D vwCl (mW cI cZ ad F G) H → va_S (mA cI cZ ad) s.heap H locs → ∀ ls : Array Slot, lv_has ls 7 [(0, .ref (ad 99)), (2, .int (x2))] → f_X5_tries_B74 x1 F G x2 s0 = some (Fz, Gz) → W p l e (headSpec wsX5_tries ({ frames := 5, cells := 0, slots := 0, locals := 124 } : Room)).room s m (List.toArray ([.ref (ad 99), .int x1] : List Value)) below meth c H locs 0 0 (MQ below (va_Qv (fun (_ : Unit) => True) (fun _ t => va_P D vwCl (mW cI cZ ad Fz Gz) t.heap) (mA cI cZ ad)) (List.toArray ([.ref (ad 99), .int x1] : List Value)) s 0 0 (mA cI cZ ad)) (F0 m 74 ls [.int (s0)]) := by
    intro F G x2 s0 H locs hP hS ls hl h
    refine lv_istore_n (lv' := [(3, .int (s0)), (0, .ref (ad 99)), (2, .int (x2))]) hx hb dX5_tries_74 rfl hl (by decide) rfl (fun ls hl => ?_)
    refine lv_aload_n hx hb dX5_tries_75 rfl (lv_at hl 1 rfl) ?_
    refine lv_iconst (v := 1) hx hb dX5_tries_76 (by decide) ?_
    refine q_put (ty := .boolean) hx hb hts hi_X5_tries_X5 tyX5 tyX5_ok nmX5 hown hK hP (mW_D hDD _ _) hS 0 26 (fun z => mW cI cZ ad z G) (m_o99 cI cZ ad F G) rfl 26 (by decide) (hts _ (List.mem_of_getElem? (i := 8) rfl)) (fun _ h9 => h9) rfl (by decide +kernel) rfl rfl (Nat.le_of_ble_eq_true rfl) (m_f26 cI cZ ad F G _) dX5_tries_77 h (fun F10 H locs h hP hS => ?_)
    refine lv_iconst (v := 1) hx hb dX5_tries_80 (by decide) ?_
    refine q_nm h (fun v11 h => ?_)
    refine lv_istore (lv' := [(4, .int (v11)), (3, .int (s0)), (0, .ref (ad 99)), (2, .int (x2))]) hx hb dX5_tries_81 hl (by decide) rfl (fun ls hl => ?_)
    refine lv_iconst (v := 0) hx hb dX5_tries_83 (by decide) ?_
    refine q_nm h (fun v12 h => ?_)
    refine lv_istore (lv' := [(5, .int (v12)), (4, .int (v11)), (3, .int (s0)), (0, .ref (ad 99)), (2, .int (x2))]) hx hb dX5_tries_84 hl (by decide) rfl (fun ls hl => ?_)
    exact j86 1000 F10 G x2 s0 v11 v12 _ _ hP hS _ (lv_sub hl [3, 4, 2, 1, 0] rfl) h
  have j62 : ∀ (F : Nat → Int32) (G : Nat → Nat → Int32) (s0 : Int32) (H : Heap) (locs : List Loc) , va_P D vwCl (mW cI cZ ad F G) H → va_S (mA cI cZ ad) s.heap H locs → ∀ ls : Array Slot, lv_has ls 7 [(0, .ref (ad 99)), (1, .int (x1))] → f_X5_tries_B62 x1 F G s0 = some (Fz, Gz) → W p l e (headSpec wsX5_tries ({ frames := 5, cells := 0, slots := 0, locals := 124 } : Room)).room s m (List.toArray ([.ref (ad 99), .int x1] : List Value)) below meth c H locs 0 0 (MQ below (va_Qv (fun (_ : Unit) => True) (fun _ t => va_P D vwCl (mW cI cZ ad Fz Gz) t.heap) (mA cI cZ ad)) (List.toArray ([.ref (ad 99), .int x1] : List Value)) s 0 0 (mA cI cZ ad)) (F0 m 62 ls [.int (s0)]) := by
    intro F G s0 H locs hP hS ls hl h
    refine lv_istore_n (lv' := [(2, .int (s0)), (0, .ref (ad 99)), (1, .int (x1))]) hx hb dX5_tries_62 rfl hl (by decide) rfl (fun ls hl => ?_)
    refine lv_iload_n hx hb dX5_tries_63 rfl (lv_at hl 2 rfl) ?_
    refine lv_iconst (v := 2) hx hb dX5_tries_64 (by decide) ?_
    refine lv_irem hx hb dX5_tries_65 (by decide) ?_
    refine q_if_ne (tgt := 73) hx hb dX5_tries_66 (by decide) h (fun h => ?_) (fun h => ?_)
    · refine lv_iconst (v := 0) hx hb dX5_tries_73 (by decide) ?_
      exact j74 F G s0 (0 : Int32) _ _ hP hS _ (lv_sub hl [1, 0] rfl) h
    · refine lv_iconst (v := 1) hx hb dX5_tries_69 (by decide) ?_
      refine lv_goto (tgt := 74) hx hb dX5_tries_70 (by decide) ?_
      exact j74 F G s0 (1 : Int32) _ _ hP hS _ (lv_sub hl [1, 0] rfl) h
  have j32 : ∀ n32 : Nat, ∀ (F : Nat → Int32) (G : Nat → Nat → Int32) (x2 : Int32) (H : Heap) (locs : List Loc) , va_P D vwCl (mW cI cZ ad F G) H → va_S (mA cI cZ ad) s.heap H locs → ∀ ls : Array Slot, lv_has ls 7 [(0, .ref (ad 99)), (1, .int (x1)), (2, .int (x2))] → f_X5_tries_L32 x1 n32 F G x2 = some (Fz, Gz) → W p l e (headSpec wsX5_tries ({ frames := 5, cells := 0, slots := 0, locals := 124 } : Room)).room s m (List.toArray ([.ref (ad 99), .int x1] : List Value)) below meth c H locs 0 0 (MQ below (va_Qv (fun (_ : Unit) => True) (fun _ t => va_P D vwCl (mW cI cZ ad Fz Gz) t.heap) (mA cI cZ ad)) (List.toArray ([.ref (ad 99), .int x1] : List Value)) s 0 0 (mA cI cZ ad)) (F0 m 32 ls []) := by
    intro n32
    induction n32 with
    | zero =>
      intro F G x2 H locs hP hS ls hl h
      cases h
    | succ n32 ih32 =>
      intro F G x2 H locs hP hS ls hl h
      replace h : f_X5_tries_L32_b (f_X5_tries_L32 x1 n32) x1 F G x2 = some (Fz, Gz) := h
      refine lv_iload_n hx hb dX5_tries_32 rfl (lv_at hl 2 rfl) ?_
      refine lv_sipush (v := 144) hx hb dX5_tries_33 (by decide) ?_
      refine q_icmp_ge (tgt := 52) hx hb dX5_tries_36 (by decide) h (fun h => ?_) (fun h => ?_)
      · refine lv_iload_n hx hb dX5_tries_52 rfl (lv_at hl 1 rfl) ?_
        refine lv_iconst (v := 2) hx hb dX5_tries_53 (by decide) ?_
        refine q_icmp_ge (tgt := 61) hx hb dX5_tries_54 (by decide) h (fun h => ?_) (fun h => ?_)
        · refine lv_iconst (v := 0) hx hb dX5_tries_61 (by decide) ?_
          exact j62 F G (0 : Int32) _ _ hP hS _ (lv_sub hl [0, 1] rfl) h
        · refine lv_iconst (v := 1) hx hb dX5_tries_57 (by decide) ?_
          refine lv_goto (tgt := 62) hx hb dX5_tries_58 (by decide) ?_
          exact j62 F G (1 : Int32) _ _ hP hS _ (lv_sub hl [0, 1] rfl) h
      · refine lv_aload_n hx hb dX5_tries_39 rfl (lv_at hl 0 rfl) ?_
        refine va_get hx hb hts hi_X5_tries_X5 hown hK hP 0 (m_o99 cI cZ ad F G) rfl 15 (by decide) (hts _ (List.mem_of_getElem? (i := 7) rfl)) (fun _ h9 => h9) rfl dX5_tries_40 ?_
        refine lv_iload_n hx hb dX5_tries_43 rfl (lv_at hl 2 rfl) ?_
        refine lv_iconst (v := -1) hx hb dX5_tries_44 (by decide) ?_
        refine q_st hx hb hK hP (mW_D hDD _ _) hS 11 0 15 (fun z => mW cI cZ ad F z) (m_a15 cI cZ ad F G) rfl (m_g15 cI cZ ad F G _) dX5_tries_45 h (fun G13 H locs h hP hS => ?_)
        refine q_iinc (j := 2) (d := (1 : Int32)) (lv2 := fun v14 => [(2, .int (v14)), (0, .ref (ad 99)), (1, .int (x1))]) hx hb dX5_tries_46 hl rfl (by decide) (by decide) (fun _ => rfl) h (fun v14 ls hl h => ?_)
        refine lv_goto (tgt := 32) hx hb dX5_tries_49 (by decide) ?_
        exact ih32 F G13 v14 _ _ hP hS _ (lv_sub hl [1, 2, 0] rfl) h
  refine lv_aload_n hx hb dX5_tries_0 rfl (lv_at hl 0 rfl) ?_
  refine lv_iconst (v := 0) hx hb dX5_tries_1 (by decide) ?_
  refine q_put (ty := .int) hx hb hts hi_X5_tries_X5 tyX5 tyX5_ok nmX5 hown hK hP (mW_D hDD _ _) hS 0 8 (fun z => mW cI cZ ad z G) (m_o99 cI cZ ad F G) rfl 8 (by decide) (hts _ (List.mem_of_getElem? (i := 1) rfl)) (fun _ h9 => h9) rfl (by decide +kernel) rfl rfl (Nat.le_of_ble_eq_true rfl) (m_f8 cI cZ ad F G _) dX5_tries_2 h (fun F15 H locs h hP hS => ?_)
  refine lv_aload_n hx hb dX5_tries_5 rfl (lv_at hl 0 rfl) ?_
  refine lv_iconst (v := 0) hx hb dX5_tries_6 (by decide) ?_
  refine q_put (ty := .int) hx hb hts hi_X5_tries_X5 tyX5 tyX5_ok nmX5 hown hK hP (mW_D hDD _ _) hS 0 16 (fun z => mW cI cZ ad z G) (m_o99 cI cZ ad F15 G) rfl 16 (by decide) (hts _ (List.mem_of_getElem? (i := 2) rfl)) (fun _ h9 => h9) rfl (by decide +kernel) rfl rfl (Nat.le_of_ble_eq_true rfl) (m_f16 cI cZ ad F15 G _) dX5_tries_7 h (fun F16 H locs h hP hS => ?_)
  refine lv_aload_n hx hb dX5_tries_10 rfl (lv_at hl 0 rfl) ?_
  refine lv_iconst (v := -1) hx hb dX5_tries_11 (by decide) ?_
  refine q_put (ty := .int) hx hb hts hi_X5_tries_X5 tyX5 tyX5_ok nmX5 hown hK hP (mW_D hDD _ _) hS 0 17 (fun z => mW cI cZ ad z G) (m_o99 cI cZ ad F16 G) rfl 17 (by decide) (hts _ (List.mem_of_getElem? (i := 3) rfl)) (fun _ h9 => h9) rfl (by decide +kernel) rfl rfl (Nat.le_of_ble_eq_true rfl) (m_f17 cI cZ ad F16 G _) dX5_tries_12 h (fun F17 H locs h hP hS => ?_)
  refine lv_aload_n hx hb dX5_tries_15 rfl (lv_at hl 0 rfl) ?_
  refine lv_iconst (v := 0) hx hb dX5_tries_16 (by decide) ?_
  refine q_put (ty := .int) hx hb hts hi_X5_tries_X5 tyX5 tyX5_ok nmX5 hown hK hP (mW_D hDD _ _) hS 0 18 (fun z => mW cI cZ ad z G) (m_o99 cI cZ ad F17 G) rfl 18 (by decide) (hts _ (List.mem_of_getElem? (i := 4) rfl)) (fun _ h9 => h9) rfl (by decide +kernel) rfl rfl (Nat.le_of_ble_eq_true rfl) (m_f18 cI cZ ad F17 G _) dX5_tries_17 h (fun F18 H locs h hP hS => ?_)
  refine lv_aload_n hx hb dX5_tries_20 rfl (lv_at hl 0 rfl) ?_
  refine lv_iconst (v := 0) hx hb dX5_tries_21 (by decide) ?_
  refine q_put (ty := .int) hx hb hts hi_X5_tries_X5 tyX5 tyX5_ok nmX5 hown hK hP (mW_D hDD _ _) hS 0 19 (fun z => mW cI cZ ad z G) (m_o99 cI cZ ad F18 G) rfl 19 (by decide) (hts _ (List.mem_of_getElem? (i := 5) rfl)) (fun _ h9 => h9) rfl (by decide +kernel) rfl rfl (Nat.le_of_ble_eq_true rfl) (m_f19 cI cZ ad F18 G _) dX5_tries_22 h (fun F19 H locs h hP hS => ?_)
  refine lv_aload_n hx hb dX5_tries_25 rfl (lv_at hl 0 rfl) ?_
  refine lv_iconst (v := 0) hx hb dX5_tries_26 (by decide) ?_
  refine q_put (ty := .int) hx hb hts hi_X5_tries_X5 tyX5 tyX5_ok nmX5 hown hK hP (mW_D hDD _ _) hS 0 20 (fun z => mW cI cZ ad z G) (m_o99 cI cZ ad F19 G) rfl 20 (by decide) (hts _ (List.mem_of_getElem? (i := 6) rfl)) (fun _ h9 => h9) rfl (by decide +kernel) rfl rfl (Nat.le_of_ble_eq_true rfl) (m_f20 cI cZ ad F19 G _) dX5_tries_27 h (fun F20 H locs h hP hS => ?_)
  refine lv_iconst (v := 0) hx hb dX5_tries_30 (by decide) ?_
  refine q_nm h (fun v21 h => ?_)
  refine lv_istore_n (lv' := [(2, .int (v21)), (0, .ref (ad 99)), (1, .int (x1))]) hx hb dX5_tries_31 rfl hl (by decide) rfl (fun ls hl => ?_)
  exact j32 1000 F20 G v21 _ _ hP hS _ (lv_sub hl [1, 2, 0] rfl) h
theorem hi_X5_keeps_X5 : ∀ w ∈ u_ws RX5 TX5 48, w ∈ wsX5_keeps := fun w h => (List.mem_cons_of_mem _ (List.mem_append_right _ h))
set_option maxHeartbeats 4000000 in
set_option maxRecDepth 100000 in
theorem mt_X5_keeps (l : Launch) (D : va_G) (cI cZ : ClassId) (ad : Nat → Nat) (F : Nat → Int32) (G : Nat → Nat → Int32)  (Fz : Nat → Int32) (Gz : Nat → Nat → Int32) (hDD : va_D (fun _ => True) (mW cI cZ ad (fun _ => 0) (fun _ _ => 0))) (h : f_X5_keeps F G  = some (Fz, Gz)) : Met l yX5_keeps wsX5_keeps ({ frames := 0, cells := 0, slots := 0, locals := 0 } : Room) (va_Pc [.ref (ad 99)] (mR D cI cZ ad F G)) (va_Qv (fun (_ : Unit) => True) (fun _ t => va_P D vwCl (mW cI cZ ad Fz Gz) t.heap) (mA cI cZ ad)) 0 0 (mA cI cZ ad) := by
  refine Met.ofW (cc := cX5_keeps) (maxL := 2) (ret := none) (by decide) rfl ?_
  intro p e s m args below meth c s₁ B hml hv
  obtain ⟨rfl, hP, hK, hN⟩ := hv
  have hx := B.exec
  have hb := B.bytes
  have hr := B.returns
  have hts := atoms_spec (ws := wsX5_keeps) B.pre
  have hown : s.vm.findClass RX5 = some m.cls := findClass_of_methodNamed B.named
  have hlocks := B.notSynchronized
  have hS : va_S (mA cI cZ ad) s.heap s.heap [] := va_S.rf
  have hl := lv_entry ([.ref (ad 99)]) (n := 2) (Nat.le_of_ble_eq_true rfl)
  rw [lg_entry_eq]
  generalize (lg_sl ([.ref (ad 99)]) ++ List.replicate (2 - (lg_sl ([.ref (ad 99)])).length) Slot.unset).toArray = ls at hl ⊢
  have hl : lv_has ls 2 [(0, .ref (ad 99))] := hl
  have j181 : ∀ n181 : Nat, ∀ (F : Nat → Int32) (G : Nat → Nat → Int32) (x1 : Int32) (H : Heap) (locs : List Loc) , va_P D vwCl (mW cI cZ ad F G) H → va_S (mA cI cZ ad) s.heap H locs → ∀ ls : Array Slot, lv_has ls 2 [(0, .ref (ad 99)), (1, .int (x1))] → f_X5_keeps_L181 n181 F G x1 = some (Fz, Gz) → W p l e (headSpec wsX5_keeps ({ frames := 0, cells := 0, slots := 0, locals := 0 } : Room)).room s m (List.toArray ([.ref (ad 99)] : List Value)) below meth c H locs 0 0 (MQ below (va_Qv (fun (_ : Unit) => True) (fun _ t => va_P D vwCl (mW cI cZ ad Fz Gz) t.heap) (mA cI cZ ad)) (List.toArray ([.ref (ad 99)] : List Value)) s 0 0 (mA cI cZ ad)) (F0 m 181 ls []) := by
    intro n181
    induction n181 with
    | zero =>
      intro F G x1 H locs hP hS ls hl h
      cases h
    | succ n181 ih181 =>
      intro F G x1 H locs hP hS ls hl h
      replace h : f_X5_keeps_L181_b (f_X5_keeps_L181 n181) F G x1 = some (Fz, Gz) := h
      refine lv_iload_n hx hb dX5_keeps_181 rfl (lv_at hl 1 rfl) ?_
      refine lv_sipush (v := 900) hx hb dX5_keeps_182 (by decide) ?_
      refine q_icmp_ge (tgt := 206) hx hb dX5_keeps_185 (by decide) h (fun h => ?_) (fun h => ?_)
      · have e2 := congrArg Prod.fst (Option.some.inj h)
        have e3 := congrArg Prod.snd (Option.some.inj h)
        dsimp only at e2 e3
        exact W.vret hx hb hr (fun t ht hW => ⟨⟨(), rfl, trivial, by show va_P D vwCl _ t.heap; rw [ht, ← e2, ← e3]; exact hP⟩, hS.F ht⟩) hS.2.2 dX5_keeps_206
      · refine lv_aload_n hx hb dX5_keeps_188 rfl (lv_at hl 0 rfl) ?_
        refine va_get hx hb hts hi_X5_keeps_X5 hown hK hP 0 (m_o99 cI cZ ad F G) rfl 46 (by decide) (hts _ (List.mem_of_getElem? (i := 30) rfl)) (fun _ h9 => h9) rfl dX5_keeps_189 ?_
        refine lv_iload_n hx hb dX5_keeps_192 rfl (lv_at hl 1 rfl) ?_
        refine lv_aload_n hx hb dX5_keeps_193 rfl (lv_at hl 0 rfl) ?_
        refine va_get hx hb hts hi_X5_keeps_X5 hown hK hP 0 (m_o99 cI cZ ad F G) rfl 22 (by decide) (hts _ (List.mem_of_getElem? (i := 31) rfl)) (fun _ h9 => h9) rfl dX5_keeps_194 ?_
        refine lv_iload_n hx hb dX5_keeps_197 rfl (lv_at hl 1 rfl) ?_
        refine q_ld hx hb hK hP 13 0 (m_a22 cI cZ ad F G) rfl dX5_keeps_198 h (fun v1 h => ?_)
        refine q_st hx hb hK hP (mW_D hDD _ _) hS 25 0 46 (fun z => mW cI cZ ad F z) (m_a46 cI cZ ad F G) rfl (m_g46 cI cZ ad F G _) dX5_keeps_199 h (fun G2 H locs h hP hS => ?_)
        refine q_iinc (j := 1) (d := (1 : Int32)) (lv2 := fun v3 => [(1, .int (v3)), (0, .ref (ad 99))]) hx hb dX5_keeps_200 hl rfl (by decide) (by decide) (fun _ => rfl) h (fun v3 ls hl h => ?_)
        refine lv_goto (tgt := 181) hx hb dX5_keeps_203 (by decide) ?_
        exact ih181 F G2 v3 _ _ hP hS _ (lv_sub hl [1, 0] rfl) h
  have j154 : ∀ n154 : Nat, ∀ (F : Nat → Int32) (G : Nat → Nat → Int32) (x1 : Int32) (H : Heap) (locs : List Loc) , va_P D vwCl (mW cI cZ ad F G) H → va_S (mA cI cZ ad) s.heap H locs → ∀ ls : Array Slot, lv_has ls 2 [(0, .ref (ad 99)), (1, .int (x1))] → f_X5_keeps_L154 n154 F G x1 = some (Fz, Gz) → W p l e (headSpec wsX5_keeps ({ frames := 0, cells := 0, slots := 0, locals := 0 } : Room)).room s m (List.toArray ([.ref (ad 99)] : List Value)) below meth c H locs 0 0 (MQ below (va_Qv (fun (_ : Unit) => True) (fun _ t => va_P D vwCl (mW cI cZ ad Fz Gz) t.heap) (mA cI cZ ad)) (List.toArray ([.ref (ad 99)] : List Value)) s 0 0 (mA cI cZ ad)) (F0 m 154 ls []) := by
    intro n154
    induction n154 with
    | zero =>
      intro F G x1 H locs hP hS ls hl h
      cases h
    | succ n154 ih154 =>
      intro F G x1 H locs hP hS ls hl h
      replace h : f_X5_keeps_L154_b (f_X5_keeps_L154 n154) F G x1 = some (Fz, Gz) := h
      refine lv_iload_n hx hb dX5_keeps_154 rfl (lv_at hl 1 rfl) ?_
      refine lv_sipush (v := 150) hx hb dX5_keeps_155 (by decide) ?_
      refine q_icmp_ge (tgt := 179) hx hb dX5_keeps_158 (by decide) h (fun h => ?_) (fun h => ?_)
      · refine lv_iconst (v := 0) hx hb dX5_keeps_179 (by decide) ?_
        refine q_nm h (fun v4 h => ?_)
        refine lv_istore_n (lv' := [(1, .int (v4)), (0, .ref (ad 99))]) hx hb dX5_keeps_180 rfl hl (by decide) rfl (fun ls hl => ?_)
        exact j181 1000 F G v4 _ _ hP hS _ (lv_sub hl [1, 0] rfl) h
      · refine lv_aload_n hx hb dX5_keeps_161 rfl (lv_at hl 0 rfl) ?_
        refine va_get hx hb hts hi_X5_keeps_X5 hown hK hP 0 (m_o99 cI cZ ad F G) rfl 45 (by decide) (hts _ (List.mem_of_getElem? (i := 28) rfl)) (fun _ h9 => h9) rfl dX5_keeps_162 ?_
        refine lv_iload_n hx hb dX5_keeps_165 rfl (lv_at hl 1 rfl) ?_
        refine lv_aload_n hx hb dX5_keeps_166 rfl (lv_at hl 0 rfl) ?_
        refine va_get hx hb hts hi_X5_keeps_X5 hown hK hP 0 (m_o99 cI cZ ad F G) rfl 21 (by decide) (hts _ (List.mem_of_getElem? (i := 29) rfl)) (fun _ h9 => h9) rfl dX5_keeps_167 ?_
        refine lv_iload_n hx hb dX5_keeps_170 rfl (lv_at hl 1 rfl) ?_
        refine q_ld hx hb hK hP 12 0 (m_a21 cI cZ ad F G) rfl dX5_keeps_171 h (fun v5 h => ?_)
        refine q_st hx hb hK hP (mW_D hDD _ _) hS 24 0 45 (fun z => mW cI cZ ad F z) (m_a45 cI cZ ad F G) rfl (m_g45 cI cZ ad F G _) dX5_keeps_172 h (fun G6 H locs h hP hS => ?_)
        refine q_iinc (j := 1) (d := (1 : Int32)) (lv2 := fun v7 => [(1, .int (v7)), (0, .ref (ad 99))]) hx hb dX5_keeps_173 hl rfl (by decide) (by decide) (fun _ => rfl) h (fun v7 ls hl h => ?_)
        refine lv_goto (tgt := 154) hx hb dX5_keeps_176 (by decide) ?_
        exact ih154 F G6 v7 _ _ hP hS _ (lv_sub hl [1, 0] rfl) h
  have j55 : ∀ n55 : Nat, ∀ (F : Nat → Int32) (G : Nat → Nat → Int32) (x1 : Int32) (H : Heap) (locs : List Loc) , va_P D vwCl (mW cI cZ ad F G) H → va_S (mA cI cZ ad) s.heap H locs → ∀ ls : Array Slot, lv_has ls 2 [(0, .ref (ad 99)), (1, .int (x1))] → f_X5_keeps_L55 n55 F G x1 = some (Fz, Gz) → W p l e (headSpec wsX5_keeps ({ frames := 0, cells := 0, slots := 0, locals := 0 } : Room)).room s m (List.toArray ([.ref (ad 99)] : List Value)) below meth c H locs 0 0 (MQ below (va_Qv (fun (_ : Unit) => True) (fun _ t => va_P D vwCl (mW cI cZ ad Fz Gz) t.heap) (mA cI cZ ad)) (List.toArray ([.ref (ad 99)] : List Value)) s 0 0 (mA cI cZ ad)) (F0 m 55 ls []) := by
    intro n55
    induction n55 with
    | zero =>
      intro F G x1 H locs hP hS ls hl h
      cases h
    | succ n55 ih55 =>
      intro F G x1 H locs hP hS ls hl h
      replace h : f_X5_keeps_L55_b (f_X5_keeps_L55 n55) F G x1 = some (Fz, Gz) := h
      refine lv_iload_n hx hb dX5_keeps_55 rfl (lv_at hl 1 rfl) ?_
      refine lv_sipush (v := 144) hx hb dX5_keeps_56 (by decide) ?_
      refine q_icmp_ge (tgt := 152) hx hb dX5_keeps_59 (by decide) h (fun h => ?_) (fun h => ?_)
      · refine lv_iconst (v := 0) hx hb dX5_keeps_152 (by decide) ?_
        refine q_nm h (fun v8 h => ?_)
        refine lv_istore_n (lv' := [(1, .int (v8)), (0, .ref (ad 99))]) hx hb dX5_keeps_153 rfl hl (by decide) rfl (fun ls hl => ?_)
        exact j154 1000 F G v8 _ _ hP hS _ (lv_sub hl [1, 0] rfl) h
      · refine lv_aload_n hx hb dX5_keeps_62 rfl (lv_at hl 0 rfl) ?_
        refine va_get hx hb hts hi_X5_keeps_X5 hown hK hP 0 (m_o99 cI cZ ad F G) rfl 44 (by decide) (hts _ (List.mem_of_getElem? (i := 14) rfl)) (fun _ h9 => h9) rfl dX5_keeps_63 ?_
        refine lv_iload_n hx hb dX5_keeps_66 rfl (lv_at hl 1 rfl) ?_
        refine lv_aload_n hx hb dX5_keeps_67 rfl (lv_at hl 0 rfl) ?_
        refine va_get hx hb hts hi_X5_keeps_X5 hown hK hP 0 (m_o99 cI cZ ad F G) rfl 15 (by decide) (hts _ (List.mem_of_getElem? (i := 15) rfl)) (fun _ h9 => h9) rfl dX5_keeps_68 ?_
        refine lv_iload_n hx hb dX5_keeps_71 rfl (lv_at hl 1 rfl) ?_
        refine q_ld hx hb hK hP 11 0 (m_a15 cI cZ ad F G) rfl dX5_keeps_72 h (fun v9 h => ?_)
        refine q_st hx hb hK hP (mW_D hDD _ _) hS 23 0 44 (fun z => mW cI cZ ad F z) (m_a44 cI cZ ad F G) rfl (m_g44 cI cZ ad F G _) dX5_keeps_73 h (fun G10 H locs h hP hS => ?_)
        refine lv_aload_n hx hb dX5_keeps_74 rfl (lv_at hl 0 rfl) ?_
        refine va_get hx hb hts hi_X5_keeps_X5 hown hK hP 0 (m_o99 cI cZ ad F G10) rfl 38 (by decide) (hts _ (List.mem_of_getElem? (i := 16) rfl)) (fun _ h9 => h9) rfl dX5_keeps_75 ?_
        refine lv_iload_n hx hb dX5_keeps_78 rfl (lv_at hl 1 rfl) ?_
        refine lv_aload_n hx hb dX5_keeps_79 rfl (lv_at hl 0 rfl) ?_
        refine va_get hx hb hts hi_X5_keeps_X5 hown hK hP 0 (m_o99 cI cZ ad F G10) rfl 9 (by decide) (hts _ (List.mem_of_getElem? (i := 17) rfl)) (fun _ h9 => h9) rfl dX5_keeps_80 ?_
        refine lv_iload_n hx hb dX5_keeps_83 rfl (lv_at hl 1 rfl) ?_
        refine q_ld hx hb hK hP 5 0 (m_a9 cI cZ ad F G10) rfl dX5_keeps_84 h (fun v11 h => ?_)
        refine q_st hx hb hK hP (mW_D hDD _ _) hS 17 0 38 (fun z => mW cI cZ ad F z) (m_a38 cI cZ ad F G10) rfl (m_g38 cI cZ ad F G10 _) dX5_keeps_85 h (fun G12 H locs h hP hS => ?_)
        refine lv_aload_n hx hb dX5_keeps_86 rfl (lv_at hl 0 rfl) ?_
        refine va_get hx hb hts hi_X5_keeps_X5 hown hK hP 0 (m_o99 cI cZ ad F G12) rfl 39 (by decide) (hts _ (List.mem_of_getElem? (i := 18) rfl)) (fun _ h9 => h9) rfl dX5_keeps_87 ?_
        refine lv_iload_n hx hb dX5_keeps_90 rfl (lv_at hl 1 rfl) ?_
        refine lv_aload_n hx hb dX5_keeps_91 rfl (lv_at hl 0 rfl) ?_
        refine va_get hx hb hts hi_X5_keeps_X5 hown hK hP 0 (m_o99 cI cZ ad F G12) rfl 10 (by decide) (hts _ (List.mem_of_getElem? (i := 19) rfl)) (fun _ h9 => h9) rfl dX5_keeps_92 ?_
        refine lv_iload_n hx hb dX5_keeps_95 rfl (lv_at hl 1 rfl) ?_
        refine q_ld hx hb hK hP 6 0 (m_a10 cI cZ ad F G12) rfl dX5_keeps_96 h (fun v13 h => ?_)
        refine q_st hx hb hK hP (mW_D hDD _ _) hS 18 0 39 (fun z => mW cI cZ ad F z) (m_a39 cI cZ ad F G12) rfl (m_g39 cI cZ ad F G12 _) dX5_keeps_97 h (fun G14 H locs h hP hS => ?_)
        refine lv_aload_n hx hb dX5_keeps_98 rfl (lv_at hl 0 rfl) ?_
        refine va_get hx hb hts hi_X5_keeps_X5 hown hK hP 0 (m_o99 cI cZ ad F G14) rfl 40 (by decide) (hts _ (List.mem_of_getElem? (i := 20) rfl)) (fun _ h9 => h9) rfl dX5_keeps_99 ?_
        refine lv_iload_n hx hb dX5_keeps_102 rfl (lv_at hl 1 rfl) ?_
        refine lv_aload_n hx hb dX5_keeps_103 rfl (lv_at hl 0 rfl) ?_
        refine va_get hx hb hts hi_X5_keeps_X5 hown hK hP 0 (m_o99 cI cZ ad F G14) rfl 11 (by decide) (hts _ (List.mem_of_getElem? (i := 21) rfl)) (fun _ h9 => h9) rfl dX5_keeps_104 ?_
        refine lv_iload_n hx hb dX5_keeps_107 rfl (lv_at hl 1 rfl) ?_
        refine q_ld hx hb hK hP 7 0 (m_a11 cI cZ ad F G14) rfl dX5_keeps_108 h (fun v15 h => ?_)
        refine q_st hx hb hK hP (mW_D hDD _ _) hS 19 0 40 (fun z => mW cI cZ ad F z) (m_a40 cI cZ ad F G14) rfl (m_g40 cI cZ ad F G14 _) dX5_keeps_109 h (fun G16 H locs h hP hS => ?_)
        refine lv_aload_n hx hb dX5_keeps_110 rfl (lv_at hl 0 rfl) ?_
        refine va_get hx hb hts hi_X5_keeps_X5 hown hK hP 0 (m_o99 cI cZ ad F G16) rfl 41 (by decide) (hts _ (List.mem_of_getElem? (i := 22) rfl)) (fun _ h9 => h9) rfl dX5_keeps_111 ?_
        refine lv_iload_n hx hb dX5_keeps_114 rfl (lv_at hl 1 rfl) ?_
        refine lv_aload_n hx hb dX5_keeps_115 rfl (lv_at hl 0 rfl) ?_
        refine va_get hx hb hts hi_X5_keeps_X5 hown hK hP 0 (m_o99 cI cZ ad F G16) rfl 12 (by decide) (hts _ (List.mem_of_getElem? (i := 23) rfl)) (fun _ h9 => h9) rfl dX5_keeps_116 ?_
        refine lv_iload_n hx hb dX5_keeps_119 rfl (lv_at hl 1 rfl) ?_
        refine q_ld hx hb hK hP 8 0 (m_a12 cI cZ ad F G16) rfl dX5_keeps_120 h (fun v17 h => ?_)
        refine q_st hx hb hK hP (mW_D hDD _ _) hS 20 0 41 (fun z => mW cI cZ ad F z) (m_a41 cI cZ ad F G16) rfl (m_g41 cI cZ ad F G16 _) dX5_keeps_121 h (fun G18 H locs h hP hS => ?_)
        refine lv_aload_n hx hb dX5_keeps_122 rfl (lv_at hl 0 rfl) ?_
        refine va_get hx hb hts hi_X5_keeps_X5 hown hK hP 0 (m_o99 cI cZ ad F G18) rfl 42 (by decide) (hts _ (List.mem_of_getElem? (i := 24) rfl)) (fun _ h9 => h9) rfl dX5_keeps_123 ?_
        refine lv_iload_n hx hb dX5_keeps_126 rfl (lv_at hl 1 rfl) ?_
        refine lv_aload_n hx hb dX5_keeps_127 rfl (lv_at hl 0 rfl) ?_
        refine va_get hx hb hts hi_X5_keeps_X5 hown hK hP 0 (m_o99 cI cZ ad F G18) rfl 13 (by decide) (hts _ (List.mem_of_getElem? (i := 25) rfl)) (fun _ h9 => h9) rfl dX5_keeps_128 ?_
        refine lv_iload_n hx hb dX5_keeps_131 rfl (lv_at hl 1 rfl) ?_
        refine q_ld hx hb hK hP 9 0 (m_a13 cI cZ ad F G18) rfl dX5_keeps_132 h (fun v19 h => ?_)
        refine q_st hx hb hK hP (mW_D hDD _ _) hS 21 0 42 (fun z => mW cI cZ ad F z) (m_a42 cI cZ ad F G18) rfl (m_g42 cI cZ ad F G18 _) dX5_keeps_133 h (fun G20 H locs h hP hS => ?_)
        refine lv_aload_n hx hb dX5_keeps_134 rfl (lv_at hl 0 rfl) ?_
        refine va_get hx hb hts hi_X5_keeps_X5 hown hK hP 0 (m_o99 cI cZ ad F G20) rfl 43 (by decide) (hts _ (List.mem_of_getElem? (i := 26) rfl)) (fun _ h9 => h9) rfl dX5_keeps_135 ?_
        refine lv_iload_n hx hb dX5_keeps_138 rfl (lv_at hl 1 rfl) ?_
        refine lv_aload_n hx hb dX5_keeps_139 rfl (lv_at hl 0 rfl) ?_
        refine va_get hx hb hts hi_X5_keeps_X5 hown hK hP 0 (m_o99 cI cZ ad F G20) rfl 14 (by decide) (hts _ (List.mem_of_getElem? (i := 27) rfl)) (fun _ h9 => h9) rfl dX5_keeps_140 ?_
        refine lv_iload_n hx hb dX5_keeps_143 rfl (lv_at hl 1 rfl) ?_
        refine q_ld hx hb hK hP 10 0 (m_a14 cI cZ ad F G20) rfl dX5_keeps_144 h (fun v21 h => ?_)
        refine q_st hx hb hK hP (mW_D hDD _ _) hS 22 0 43 (fun z => mW cI cZ ad F z) (m_a43 cI cZ ad F G20) rfl (m_g43 cI cZ ad F G20 _) dX5_keeps_145 h (fun G22 H locs h hP hS => ?_)
        refine q_iinc (j := 1) (d := (1 : Int32)) (lv2 := fun v23 => [(1, .int (v23)), (0, .ref (ad 99))]) hx hb dX5_keeps_146 hl rfl (by decide) (by decide) (fun _ => rfl) h (fun v23 ls hl h => ?_)
        refine lv_goto (tgt := 55) hx hb dX5_keeps_149 (by decide) ?_
        exact ih55 F G22 v23 _ _ hP hS _ (lv_sub hl [1, 0] rfl) h
  refine lv_aload_n hx hb dX5_keeps_0 rfl (lv_at hl 0 rfl) ?_
  refine lv_iconst (v := 1) hx hb dX5_keeps_1 (by decide) ?_
  refine q_put (ty := .boolean) hx hb hts hi_X5_keeps_X5 tyX5 tyX5_ok nmX5 hown hK hP (mW_D hDD _ _) hS 0 31 (fun z => mW cI cZ ad z G) (m_o99 cI cZ ad F G) rfl 31 (by decide) (hts _ (List.mem_of_getElem? (i := 1) rfl)) (fun _ h9 => h9) rfl (by decide +kernel) rfl rfl (Nat.le_of_ble_eq_true rfl) (m_f31 cI cZ ad F G _) dX5_keeps_2 h (fun F24 H locs h hP hS => ?_)
  refine lv_aload_n hx hb dX5_keeps_5 rfl (lv_at hl 0 rfl) ?_
  refine lv_aload_n hx hb dX5_keeps_6 rfl (lv_at hl 0 rfl) ?_
  refine va_get hx hb hts hi_X5_keeps_X5 hown hK hP 0 (m_o99 cI cZ ad F24 G) rfl 8 (by decide) (hts _ (List.mem_of_getElem? (i := 2) rfl)) (fun _ h9 => h9) rfl dX5_keeps_7 ?_
  refine q_put (ty := .int) hx hb hts hi_X5_keeps_X5 tyX5 tyX5_ok nmX5 hown hK hP (mW_D hDD _ _) hS 0 32 (fun z => mW cI cZ ad z G) (m_o99 cI cZ ad F24 G) rfl 32 (by decide) (hts _ (List.mem_of_getElem? (i := 3) rfl)) (fun _ h9 => h9) rfl (by decide +kernel) rfl rfl (Nat.le_of_ble_eq_true rfl) (m_f32 cI cZ ad F24 G _) dX5_keeps_10 h (fun F25 H locs h hP hS => ?_)
  refine lv_aload_n hx hb dX5_keeps_13 rfl (lv_at hl 0 rfl) ?_
  refine lv_aload_n hx hb dX5_keeps_14 rfl (lv_at hl 0 rfl) ?_
  refine va_get hx hb hts hi_X5_keeps_X5 hown hK hP 0 (m_o99 cI cZ ad F25 G) rfl 16 (by decide) (hts _ (List.mem_of_getElem? (i := 4) rfl)) (fun _ h9 => h9) rfl dX5_keeps_15 ?_
  refine q_put (ty := .int) hx hb hts hi_X5_keeps_X5 tyX5 tyX5_ok nmX5 hown hK hP (mW_D hDD _ _) hS 0 33 (fun z => mW cI cZ ad z G) (m_o99 cI cZ ad F25 G) rfl 33 (by decide) (hts _ (List.mem_of_getElem? (i := 5) rfl)) (fun _ h9 => h9) rfl (by decide +kernel) rfl rfl (Nat.le_of_ble_eq_true rfl) (m_f33 cI cZ ad F25 G _) dX5_keeps_18 h (fun F26 H locs h hP hS => ?_)
  refine lv_aload_n hx hb dX5_keeps_21 rfl (lv_at hl 0 rfl) ?_
  refine lv_aload_n hx hb dX5_keeps_22 rfl (lv_at hl 0 rfl) ?_
  refine va_get hx hb hts hi_X5_keeps_X5 hown hK hP 0 (m_o99 cI cZ ad F26 G) rfl 17 (by decide) (hts _ (List.mem_of_getElem? (i := 6) rfl)) (fun _ h9 => h9) rfl dX5_keeps_23 ?_
  refine q_put (ty := .int) hx hb hts hi_X5_keeps_X5 tyX5 tyX5_ok nmX5 hown hK hP (mW_D hDD _ _) hS 0 34 (fun z => mW cI cZ ad z G) (m_o99 cI cZ ad F26 G) rfl 34 (by decide) (hts _ (List.mem_of_getElem? (i := 7) rfl)) (fun _ h9 => h9) rfl (by decide +kernel) rfl rfl (Nat.le_of_ble_eq_true rfl) (m_f34 cI cZ ad F26 G _) dX5_keeps_26 h (fun F27 H locs h hP hS => ?_)
  refine lv_aload_n hx hb dX5_keeps_29 rfl (lv_at hl 0 rfl) ?_
  refine lv_aload_n hx hb dX5_keeps_30 rfl (lv_at hl 0 rfl) ?_
  refine va_get hx hb hts hi_X5_keeps_X5 hown hK hP 0 (m_o99 cI cZ ad F27 G) rfl 18 (by decide) (hts _ (List.mem_of_getElem? (i := 8) rfl)) (fun _ h9 => h9) rfl dX5_keeps_31 ?_
  refine q_put (ty := .int) hx hb hts hi_X5_keeps_X5 tyX5 tyX5_ok nmX5 hown hK hP (mW_D hDD _ _) hS 0 35 (fun z => mW cI cZ ad z G) (m_o99 cI cZ ad F27 G) rfl 35 (by decide) (hts _ (List.mem_of_getElem? (i := 9) rfl)) (fun _ h9 => h9) rfl (by decide +kernel) rfl rfl (Nat.le_of_ble_eq_true rfl) (m_f35 cI cZ ad F27 G _) dX5_keeps_34 h (fun F28 H locs h hP hS => ?_)
  refine lv_aload_n hx hb dX5_keeps_37 rfl (lv_at hl 0 rfl) ?_
  refine lv_aload_n hx hb dX5_keeps_38 rfl (lv_at hl 0 rfl) ?_
  refine va_get hx hb hts hi_X5_keeps_X5 hown hK hP 0 (m_o99 cI cZ ad F28 G) rfl 19 (by decide) (hts _ (List.mem_of_getElem? (i := 10) rfl)) (fun _ h9 => h9) rfl dX5_keeps_39 ?_
  refine q_put (ty := .int) hx hb hts hi_X5_keeps_X5 tyX5 tyX5_ok nmX5 hown hK hP (mW_D hDD _ _) hS 0 36 (fun z => mW cI cZ ad z G) (m_o99 cI cZ ad F28 G) rfl 36 (by decide) (hts _ (List.mem_of_getElem? (i := 11) rfl)) (fun _ h9 => h9) rfl (by decide +kernel) rfl rfl (Nat.le_of_ble_eq_true rfl) (m_f36 cI cZ ad F28 G _) dX5_keeps_42 h (fun F29 H locs h hP hS => ?_)
  refine lv_aload_n hx hb dX5_keeps_45 rfl (lv_at hl 0 rfl) ?_
  refine lv_aload_n hx hb dX5_keeps_46 rfl (lv_at hl 0 rfl) ?_
  refine va_get hx hb hts hi_X5_keeps_X5 hown hK hP 0 (m_o99 cI cZ ad F29 G) rfl 20 (by decide) (hts _ (List.mem_of_getElem? (i := 12) rfl)) (fun _ h9 => h9) rfl dX5_keeps_47 ?_
  refine q_put (ty := .int) hx hb hts hi_X5_keeps_X5 tyX5 tyX5_ok nmX5 hown hK hP (mW_D hDD _ _) hS 0 37 (fun z => mW cI cZ ad z G) (m_o99 cI cZ ad F29 G) rfl 37 (by decide) (hts _ (List.mem_of_getElem? (i := 13) rfl)) (fun _ h9 => h9) rfl (by decide +kernel) rfl rfl (Nat.le_of_ble_eq_true rfl) (m_f37 cI cZ ad F29 G _) dX5_keeps_50 h (fun F30 H locs h hP hS => ?_)
  refine lv_iconst (v := 0) hx hb dX5_keeps_53 (by decide) ?_
  refine q_nm h (fun v31 h => ?_)
  refine lv_istore_n (lv' := [(1, .int (v31)), (0, .ref (ad 99))]) hx hb dX5_keeps_54 rfl hl (by decide) rfl (fun ls hl => ?_)
  exact j55 1000 F30 G v31 _ _ hP hS _ (lv_sub hl [1, 0] rfl) h
theorem hi_X5_work_X5 : ∀ w ∈ u_ws RX5 TX5 48, w ∈ wsX5_work := fun w h => (List.mem_cons_of_mem _ (List.mem_append_right _ h))
set_option maxHeartbeats 4000000 in
set_option maxRecDepth 100000 in
theorem mt_X5_work (l : Launch) (D : va_G) (cI cZ : ClassId) (ad : Nat → Nat) (F : Nat → Int32) (G : Nat → Nat → Int32) (x1 : Int32) (rv : Int32) (Fz : Nat → Int32) (Gz : Nat → Nat → Int32) (hDD : va_D (fun _ => True) (mW cI cZ ad (fun _ => 0) (fun _ _ => 0))) (h : f_X5_work F G x1 = some (rv, Fz, Gz)) : Met l yX5_work wsX5_work ({ frames := 6, cells := 0, slots := 0, locals := 150 } : Room) (va_Pc [.ref (ad 99), .int x1] (mR D cI cZ ad F G)) (va_Qi (fun z (_ : Unit) => z = rv) (fun _ t => va_P D vwCl (mW cI cZ ad Fz Gz) t.heap) (mA cI cZ ad)) 0 0 (mA cI cZ ad) := by
  refine Met.ofW (cc := cX5_work) (maxL := 2) (ret := (some .int)) (by decide) rfl ?_
  intro p e s m args below meth c s₁ B hml hv
  obtain ⟨rfl, hP, hK, hN⟩ := hv
  have hx := B.exec
  have hb := B.bytes
  have hr := B.returns
  have hts := atoms_spec (ws := wsX5_work) B.pre
  have hown : s.vm.findClass RX5 = some m.cls := findClass_of_methodNamed B.named
  have hlocks := B.notSynchronized
  have hS : va_S (mA cI cZ ad) s.heap s.heap [] := va_S.rf
  have hl := lv_entry ([.ref (ad 99), .int x1]) (n := 2) (Nat.le_of_ble_eq_true rfl)
  rw [lg_entry_eq]
  generalize (lg_sl ([.ref (ad 99), .int x1]) ++ List.replicate (2 - (lg_sl ([.ref (ad 99), .int x1])).length) Slot.unset).toArray = ls at hl ⊢
  have hl : lv_has ls 2 [(0, .ref (ad 99)), (1, .int (x1))] := hl
  refine lv_iload_n hx hb dX5_work_0 rfl (lv_at hl 1 rfl) ?_
  refine lv_iconst (v := 0) hx hb dX5_work_1 (by decide) ?_
  refine lv_iconst (v := 3) hx hb dX5_work_2 (by decide) ?_
  obtain ⟨v1, hc2, h⟩ := q_some h
  refine q_cs (W.runS (As := [.int (x1), .int ((0 : Int32)), .int ((3 : Int32))]) (rest := []) ⟨hx, hb, hml, hown, hts⟩ (mt_X5_in l x1 (0 : Int32) (3 : Int32) v1 hc2) (va_cwS 3 hts gX5_work_X5_in rfl rfl rfl (by decide +kernel) ⟨Nat.le_of_ble_eq_true rfl, Nat.le_of_ble_eq_true rfl⟩) q_pr0 rfl rfl hl.1 rfl (lv_room (Nat.le_of_ble_eq_true rfl)) dX5_work_3 ⟨Nat.le_of_ble_eq_true rfl, Nat.le_of_ble_eq_true rfl⟩) ?_
  refine q_if_ne (tgt := 11) hx hb dX5_work_6 (by decide) h (fun h => ?_) (fun h => ?_)
  · refine lv_aload_n hx hb dX5_work_11 rfl (lv_at hl 0 rfl) ?_
    refine lv_iload_n hx hb dX5_work_12 rfl (lv_at hl 1 rfl) ?_
    obtain ⟨⟨F4, G5⟩, hc6, h⟩ := q_some h
    refine q_cv (va_runV (C := RX5) (As := [.int (x1)]) (rest := []) ⟨hx, hb, hml, hown, hts⟩ (mt_X5_tries l D cI cZ ad F G x1 F4 G5 hDD hc6) (cwV 1 hts gX5_work_X5_tries rfl rfl rfl (by decide +kernel) ⟨Nat.le_of_ble_eq_true rfl, Nat.le_of_ble_eq_true rfl⟩) ⟨mR_b, va_recv hK hP (ci := 5) (q0 := 0) rfl rfl, (mR_p hP hK hN).2⟩ rfl rfl hl.1 rfl (lv_room (Nat.le_of_ble_eq_true rfl)) dX5_work_13 ⟨Nat.le_of_ble_eq_true rfl, Nat.le_of_ble_eq_true rfl⟩) hS (fun H locs hP hS => ?_)
    refine lv_aload_n hx hb dX5_work_16 rfl (lv_at hl 0 rfl) ?_
    obtain ⟨⟨F8, G9⟩, hc10, h⟩ := q_some h
    refine q_cv (va_runV (C := RX5) (As := []) (rest := []) ⟨hx, hb, hml, hown, hts⟩ (mt_X5_keeps l D cI cZ ad F4 G5  F8 G9 hDD hc10) (cwV 0 hts gX5_work_X5_keeps rfl rfl rfl (by decide +kernel) ⟨Nat.le_of_ble_eq_true rfl, Nat.le_of_ble_eq_true rfl⟩) ⟨mR_b, va_recv hK hP (ci := 5) (q0 := 0) rfl rfl, (mR_p hP hK hN).2⟩ rfl rfl hl.1 rfl (lv_room (Nat.le_of_ble_eq_true rfl)) dX5_work_17 ⟨Nat.le_of_ble_eq_true rfl, Nat.le_of_ble_eq_true rfl⟩) hS (fun H locs hP hS => ?_)
    refine lv_aload_n hx hb dX5_work_20 rfl (lv_at hl 0 rfl) ?_
    refine va_get hx hb hts hi_X5_work_X5 hown hK hP 0 (m_o99 cI cZ ad F8 G9) rfl 32 (by decide) (hts _ (List.mem_of_getElem? (i := 1) rfl)) (fun _ h9 => h9) rfl dX5_work_21 ?_
    have e1 := congrArg Prod.fst (Option.some.inj h)
    have e2 := congrArg (fun z => z.2.1) (Option.some.inj h)
    have e3 := congrArg (fun z => z.2.2) (Option.some.inj h)
    dsimp only at e1 e2 e3
    exact W.iret hx hb hr (fun t ht hW => ⟨⟨_, (), rfl, e1, by show va_P D vwCl _ t.heap; rw [ht, ← e2, ← e3]; exact hP⟩, hS.F ht⟩) hS.2.2 dX5_work_24
  · refine lv_iconst (v := -1) hx hb dX5_work_9 (by decide) ?_
    have e1 := congrArg Prod.fst (Option.some.inj h)
    have e2 := congrArg (fun z => z.2.1) (Option.some.inj h)
    have e3 := congrArg (fun z => z.2.2) (Option.some.inj h)
    dsimp only at e1 e2 e3
    exact W.iret hx hb hr (fun t ht hW => ⟨⟨_, (), rfl, e1, by show va_P D vwCl _ t.heap; rw [ht, ← e2, ← e3]; exact hP⟩, hS.F ht⟩) hS.2.2 dX5_work_10
theorem hi_X5_hang_X5 : ∀ w ∈ u_ws RX5 TX5 48, w ∈ wsX5_hang := fun w h => (List.mem_cons_of_mem _ (List.mem_append_right _ h))
set_option maxHeartbeats 4000000 in
set_option maxRecDepth 100000 in
theorem mt_X5_hang (l : Launch) (D : va_G) (cI cZ : ClassId) (ad : Nat → Nat) (F : Nat → Int32) (G : Nat → Nat → Int32) (x1 : Int32) (rv : Int32) (Fz : Nat → Int32) (Gz : Nat → Nat → Int32) (hDD : va_D (fun _ => True) (mW cI cZ ad (fun _ => 0) (fun _ _ => 0))) (h : f_X5_hang F G x1 = some (rv, Fz, Gz)) : Met l yX5_hang wsX5_hang ({ frames := 2, cells := 0, slots := 0, locals := 43 } : Room) (va_Pc [.ref (ad 99), .int x1] (mR D cI cZ ad F G)) (va_Qi (fun z (_ : Unit) => z = rv) (fun _ t => va_P D vwCl (mW cI cZ ad Fz Gz) t.heap) (mA cI cZ ad)) 0 0 (mA cI cZ ad) := by
  refine Met.ofW (cc := cX5_hang) (maxL := 5) (ret := (some .int)) (by decide) rfl ?_
  intro p e s m args below meth c s₁ B hml hv
  obtain ⟨rfl, hP, hK, hN⟩ := hv
  have hx := B.exec
  have hb := B.bytes
  have hr := B.returns
  have hts := atoms_spec (ws := wsX5_hang) B.pre
  have hown : s.vm.findClass RX5 = some m.cls := findClass_of_methodNamed B.named
  have hlocks := B.notSynchronized
  have hS : va_S (mA cI cZ ad) s.heap s.heap [] := va_S.rf
  have hl := lv_entry ([.ref (ad 99), .int x1]) (n := 5) (Nat.le_of_ble_eq_true rfl)
  rw [lg_entry_eq]
  generalize (lg_sl ([.ref (ad 99), .int x1]) ++ List.replicate (5 - (lg_sl ([.ref (ad 99), .int x1])).length) Slot.unset).toArray = ls at hl ⊢
  have hl : lv_has ls 5 [(0, .ref (ad 99)), (1, .int (x1))] := hl
  have j36 : ∀ n36 : Nat, ∀ (F : Nat → Int32) (G : Nat → Nat → Int32) (x2 : Int32) (H : Heap) (locs : List Loc) , va_P D vwCl (mW cI cZ ad F G) H → va_S (mA cI cZ ad) s.heap H locs → ∀ ls : Array Slot, lv_has ls 5 [(0, .ref (ad 99)), (1, .int (x1)), (2, .int (x2))] → f_X5_hang_L36 x1 n36 F G x2 = some (rv, Fz, Gz) → W p l e (headSpec wsX5_hang ({ frames := 2, cells := 0, slots := 0, locals := 43 } : Room)).room s m (List.toArray ([.ref (ad 99), .int x1] : List Value)) below meth c H locs 0 0 (MQ below (va_Qi (fun z (_ : Unit) => z = rv) (fun _ t => va_P D vwCl (mW cI cZ ad Fz Gz) t.heap) (mA cI cZ ad)) (List.toArray ([.ref (ad 99), .int x1] : List Value)) s 0 0 (mA cI cZ ad)) (F0 m 36 ls []) := by
    intro n36
    induction n36 with
    | zero =>
      intro F G x2 H locs hP hS ls hl h
      cases h
    | succ n36 ih36 =>
      have j106 : ∀ (F : Nat → Int32) (G : Nat → Nat → Int32) (x2 : Int32) (s1 : Int32) (s2 : Int32) (H : Heap) (locs : List Loc) , va_P D vwCl (mW cI cZ ad F G) H → va_S (mA cI cZ ad) s.heap H locs → ∀ ls : Array Slot, lv_has ls 5 [(0, .ref (ad 99)), (1, .int (x1)), (2, .int (x2))] → f_X5_hang_B106 (f_X5_hang_L36 x1 n36) x1 F G x2 s1 s2 = some (rv, Fz, Gz) → W p l e (headSpec wsX5_hang ({ frames := 2, cells := 0, slots := 0, locals := 43 } : Room)).room s m (List.toArray ([.ref (ad 99), .int x1] : List Value)) below meth c H locs 0 0 (MQ below (va_Qi (fun z (_ : Unit) => z = rv) (fun _ t => va_P D vwCl (mW cI cZ ad Fz Gz) t.heap) (mA cI cZ ad)) (List.toArray ([.ref (ad 99), .int x1] : List Value)) s 0 0 (mA cI cZ ad)) (F0 m 106 ls [.int (s2), .int (s1), .ref (ad 47)]) := by
        intro F G x2 s1 s2 H locs hP hS ls hl h
        refine q_stz hx hb hK hP (mW_D hDD _ _) hS 26 1 47 (fun z => mW cI cZ ad F z) (m_a47 cI cZ ad F G) rfl (m_g47 cI cZ ad F G _) dX5_hang_106 h (fun G1 H locs h hP hS => ?_)
        refine q_iinc (j := 2) (d := (1 : Int32)) (lv2 := fun v2 => [(2, .int (v2)), (0, .ref (ad 99)), (1, .int (x1))]) hx hb dX5_hang_107 hl rfl (by decide) (by decide) (fun _ => rfl) h (fun v2 ls hl h => ?_)
        refine lv_goto (tgt := 36) hx hb dX5_hang_110 (by decide) ?_
        exact ih36 F G1 v2 _ _ hP hS _ (lv_sub hl [1, 2, 0] rfl) h
      have j105 : ∀ (F : Nat → Int32) (G : Nat → Nat → Int32) (x2 : Int32) (s1 : Int32) (H : Heap) (locs : List Loc) , va_P D vwCl (mW cI cZ ad F G) H → va_S (mA cI cZ ad) s.heap H locs → ∀ ls : Array Slot, lv_has ls 5 [(0, .ref (ad 99)), (1, .int (x1)), (2, .int (x2))] → f_X5_hang_B105 (f_X5_hang_L36 x1 n36) x1 F G x2 s1 = some (rv, Fz, Gz) → W p l e (headSpec wsX5_hang ({ frames := 2, cells := 0, slots := 0, locals := 43 } : Room)).room s m (List.toArray ([.ref (ad 99), .int x1] : List Value)) below meth c H locs 0 0 (MQ below (va_Qi (fun z (_ : Unit) => z = rv) (fun _ t => va_P D vwCl (mW cI cZ ad Fz Gz) t.heap) (mA cI cZ ad)) (List.toArray ([.ref (ad 99), .int x1] : List Value)) s 0 0 (mA cI cZ ad)) (F0 m 105 ls [.int (s1), .ref (ad 47)]) := by
        intro F G x2 s1 H locs hP hS ls hl h
        refine lv_iconst (v := 0) hx hb dX5_hang_105 (by decide) ?_
        exact j106 F G x2 s1 (0 : Int32) _ _ hP hS _ (lv_sub hl [0, 1, 2] rfl) h
      have j101 : ∀ (F : Nat → Int32) (G : Nat → Nat → Int32) (x2 : Int32) (s1 : Int32) (H : Heap) (locs : List Loc) , va_P D vwCl (mW cI cZ ad F G) H → va_S (mA cI cZ ad) s.heap H locs → ∀ ls : Array Slot, lv_has ls 5 [(0, .ref (ad 99)), (1, .int (x1)), (2, .int (x2))] → f_X5_hang_B101 (f_X5_hang_L36 x1 n36) x1 F G x2 s1 = some (rv, Fz, Gz) → W p l e (headSpec wsX5_hang ({ frames := 2, cells := 0, slots := 0, locals := 43 } : Room)).room s m (List.toArray ([.ref (ad 99), .int x1] : List Value)) below meth c H locs 0 0 (MQ below (va_Qi (fun z (_ : Unit) => z = rv) (fun _ t => va_P D vwCl (mW cI cZ ad Fz Gz) t.heap) (mA cI cZ ad)) (List.toArray ([.ref (ad 99), .int x1] : List Value)) s 0 0 (mA cI cZ ad)) (F0 m 101 ls [.int (s1), .ref (ad 47)]) := by
        intro F G x2 s1 H locs hP hS ls hl h
        refine lv_iconst (v := 1) hx hb dX5_hang_101 (by decide) ?_
        refine lv_goto (tgt := 106) hx hb dX5_hang_102 (by decide) ?_
        exact j106 F G x2 s1 (1 : Int32) _ _ hP hS _ (lv_sub hl [0, 1, 2] rfl) h
      have j86 : ∀ (F : Nat → Int32) (G : Nat → Nat → Int32) (x2 : Int32) (x4 : Int32) (s1 : Int32) (H : Heap) (locs : List Loc) , va_P D vwCl (mW cI cZ ad F G) H → va_S (mA cI cZ ad) s.heap H locs → ∀ ls : Array Slot, lv_has ls 5 [(0, .ref (ad 99)), (1, .int (x1)), (2, .int (x2)), (4, .int (x4))] → f_X5_hang_B86 (f_X5_hang_L36 x1 n36) x1 F G x2 x4 s1 = some (rv, Fz, Gz) → W p l e (headSpec wsX5_hang ({ frames := 2, cells := 0, slots := 0, locals := 43 } : Room)).room s m (List.toArray ([.ref (ad 99), .int x1] : List Value)) below meth c H locs 0 0 (MQ below (va_Qi (fun z (_ : Unit) => z = rv) (fun _ t => va_P D vwCl (mW cI cZ ad Fz Gz) t.heap) (mA cI cZ ad)) (List.toArray ([.ref (ad 99), .int x1] : List Value)) s 0 0 (mA cI cZ ad)) (F0 m 86 ls [.int (s1), .ref (ad 47)]) := by
        intro F G x2 x4 s1 H locs hP hS ls hl h
        refine lv_iload hx hb dX5_hang_86 (lv_at hl 3 rfl) ?_
        refine q_if_lt (tgt := 105) hx hb dX5_hang_88 (by decide) h (fun h => ?_) (fun h => ?_)
        · exact j105 F G x2 s1 _ _ hP hS _ (lv_sub hl [0, 1, 2] rfl) h
        · refine lv_aload_n hx hb dX5_hang_91 rfl (lv_at hl 0 rfl) ?_
          refine va_get hx hb hts hi_X5_hang_X5 hown hK hP 0 (m_o99 cI cZ ad F G) rfl 47 (by decide) (hts _ (List.mem_of_getElem? (i := 1) rfl)) (fun _ h9 => h9) rfl dX5_hang_92 ?_
          refine lv_iload hx hb dX5_hang_95 (lv_at hl 3 rfl) ?_
          refine q_ldz hx hb hK hP 26 1 (m_a47 cI cZ ad F G) rfl dX5_hang_97 h (fun v3 h => ?_)
          refine q_if_eq (tgt := 105) hx hb dX5_hang_98 (by decide) h (fun h => ?_) (fun h => ?_)
          · exact j105 F G x2 s1 _ _ hP hS _ (lv_sub hl [0, 1, 2] rfl) h
          · exact j101 F G x2 s1 _ _ hP hS _ (lv_sub hl [0, 1, 2] rfl) h
      intro F G x2 H locs hP hS ls hl h
      replace h : f_X5_hang_L36_b (f_X5_hang_L36 x1 n36) x1 F G x2 = some (rv, Fz, Gz) := h
      refine lv_iload_n hx hb dX5_hang_36 rfl (lv_at hl 2 rfl) ?_
      refine lv_aload_n hx hb dX5_hang_37 rfl (lv_at hl 0 rfl) ?_
      refine va_get hx hb hts hi_X5_hang_X5 hown hK hP 0 (m_o99 cI cZ ad F G) rfl 32 (by decide) (hts _ (List.mem_of_getElem? (i := 2) rfl)) (fun _ h9 => h9) rfl dX5_hang_38 ?_
      refine q_icmp_ge (tgt := 113) hx hb dX5_hang_41 (by decide) h (fun h => ?_) (fun h => ?_)
      · refine lv_aload_n hx hb dX5_hang_113 rfl (lv_at hl 0 rfl) ?_
        obtain ⟨v4, hc5, h⟩ := q_some h
        refine q_cs (W.runV (C := RX5) (As := []) (rest := []) ⟨hx, hb, hml, hown, hts⟩ (mt_X5_manyIn l D cI cZ ad F G  v4 hc5) (cwV 0 hts gX5_hang_X5_manyIn rfl rfl rfl (by decide +kernel) ⟨Nat.le_of_ble_eq_true rfl, Nat.le_of_ble_eq_true rfl⟩) ⟨mR_b, va_recv hK hP (ci := 5) (q0 := 0) rfl rfl, (mR_p hP hK hN).2⟩ rfl rfl hl.1 rfl (lv_room (Nat.le_of_ble_eq_true rfl)) dX5_hang_114 ⟨Nat.le_of_ble_eq_true rfl, Nat.le_of_ble_eq_true rfl⟩) ?_
        have e1 := congrArg Prod.fst (Option.some.inj h)
        have e2 := congrArg (fun z => z.2.1) (Option.some.inj h)
        have e3 := congrArg (fun z => z.2.2) (Option.some.inj h)
        dsimp only at e1 e2 e3
        exact W.iret hx hb hr (fun t ht hW => ⟨⟨_, (), rfl, e1, by show va_P D vwCl _ t.heap; rw [ht, ← e2, ← e3]; exact hP⟩, hS.F ht⟩) hS.2.2 dX5_hang_117
      · refine lv_aload_n hx hb dX5_hang_44 rfl (lv_at hl 0 rfl) ?_
        refine va_get hx hb hts hi_X5_hang_X5 hown hK hP 0 (m_o99 cI cZ ad F G) rfl 41 (by decide) (hts _ (List.mem_of_getElem? (i := 3) rfl)) (fun _ h9 => h9) rfl dX5_hang_45 ?_
        refine lv_iload_n hx hb dX5_hang_48 rfl (lv_at hl 2 rfl) ?_
        refine q_ld hx hb hK hP 20 0 (m_a41 cI cZ ad F G) rfl dX5_hang_49 h (fun v6 h => ?_)
        refine lv_istore_n (lv' := [(3, .int (v6)), (0, .ref (ad 99)), (1, .int (x1)), (2, .int (x2))]) hx hb dX5_hang_50 rfl hl (by decide) rfl (fun ls hl => ?_)
        refine lv_aload_n hx hb dX5_hang_51 rfl (lv_at hl 1 rfl) ?_
        refine va_get hx hb hts hi_X5_hang_X5 hown hK hP 0 (m_o99 cI cZ ad F G) rfl 42 (by decide) (hts _ (List.mem_of_getElem? (i := 4) rfl)) (fun _ h9 => h9) rfl dX5_hang_52 ?_
        refine lv_iload_n hx hb dX5_hang_55 rfl (lv_at hl 3 rfl) ?_
        refine q_ld hx hb hK hP 21 0 (m_a42 cI cZ ad F G) rfl dX5_hang_56 h (fun v7 h => ?_)
        refine lv_istore (lv' := [(4, .int (v7)), (3, .int (v6)), (0, .ref (ad 99)), (1, .int (x1)), (2, .int (x2))]) hx hb dX5_hang_57 hl (by decide) rfl (fun ls hl => ?_)
        refine lv_aload_n hx hb dX5_hang_59 rfl (lv_at hl 2 rfl) ?_
        refine va_get hx hb hts hi_X5_hang_X5 hown hK hP 0 (m_o99 cI cZ ad F G) rfl 47 (by decide) (hts _ (List.mem_of_getElem? (i := 1) rfl)) (fun _ h9 => h9) rfl dX5_hang_60 ?_
        refine lv_iload_n hx hb dX5_hang_63 rfl (lv_at hl 4 rfl) ?_
        refine lv_aload_n hx hb dX5_hang_64 rfl (lv_at hl 2 rfl) ?_
        refine lv_iload_n hx hb dX5_hang_65 rfl (lv_at hl 4 rfl) ?_
        refine lv_iload_n hx hb dX5_hang_66 rfl (lv_at hl 3 rfl) ?_
        obtain ⟨v8, hc9, h⟩ := q_some h
        refine q_cs (W.runV (C := RX5) (As := [.int (x2), .int (x1)]) (rest := [.int (x2), .ref (ad 47)]) ⟨hx, hb, hml, hown, hts⟩ (mt_X5_isOn l D cI cZ ad F G x2 x1 v8 hc9) (cwV 2 hts gX5_hang_X5_isOn rfl rfl rfl (by decide +kernel) ⟨Nat.le_of_ble_eq_true rfl, Nat.le_of_ble_eq_true rfl⟩) ⟨mR_b, va_recv hK hP (ci := 5) (q0 := 0) rfl rfl, (mR_p hP hK hN).2⟩ rfl rfl hl.1 rfl (lv_room (Nat.le_of_ble_eq_true rfl)) dX5_hang_67 ⟨Nat.le_of_ble_eq_true rfl, Nat.le_of_ble_eq_true rfl⟩) ?_
        refine q_if_ne (tgt := 101) hx hb dX5_hang_70 (by decide) h (fun h => ?_) (fun h => ?_)
        · exact j101 F G x2 x2 _ _ hP hS _ (lv_sub hl [2, 3, 4] rfl) h
        · refine lv_iload_n hx hb dX5_hang_73 rfl (lv_at hl 1 rfl) ?_
          refine q_if_lt (tgt := 86) hx hb dX5_hang_74 (by decide) h (fun h => ?_) (fun h => ?_)
          · exact j86 F G x2 v7 x2 _ _ hP hS _ (lv_sub hl [2, 3, 4, 0] rfl) h
          · refine lv_aload_n hx hb dX5_hang_77 rfl (lv_at hl 2 rfl) ?_
            refine va_get hx hb hts hi_X5_hang_X5 hown hK hP 0 (m_o99 cI cZ ad F G) rfl 47 (by decide) (hts _ (List.mem_of_getElem? (i := 1) rfl)) (fun _ h9 => h9) rfl dX5_hang_78 ?_
            refine lv_iload_n hx hb dX5_hang_81 rfl (lv_at hl 1 rfl) ?_
            refine q_ldz hx hb hK hP 26 1 (m_a47 cI cZ ad F G) rfl dX5_hang_82 h (fun v10 h => ?_)
            refine q_if_ne (tgt := 101) hx hb dX5_hang_83 (by decide) h (fun h => ?_) (fun h => ?_)
            · exact j101 F G x2 x2 _ _ hP hS _ (lv_sub hl [2, 3, 4] rfl) h
            · exact j86 F G x2 v7 x2 _ _ hP hS _ (lv_sub hl [2, 3, 4, 0] rfl) h
  have j12 : ∀ n12 : Nat, ∀ (F : Nat → Int32) (G : Nat → Nat → Int32) (x2 : Int32) (H : Heap) (locs : List Loc) , va_P D vwCl (mW cI cZ ad F G) H → va_S (mA cI cZ ad) s.heap H locs → ∀ ls : Array Slot, lv_has ls 5 [(0, .ref (ad 99)), (1, .int (x1)), (2, .int (x2))] → f_X5_hang_L12 x1 n12 F G x2 = some (rv, Fz, Gz) → W p l e (headSpec wsX5_hang ({ frames := 2, cells := 0, slots := 0, locals := 43 } : Room)).room s m (List.toArray ([.ref (ad 99), .int x1] : List Value)) below meth c H locs 0 0 (MQ below (va_Qi (fun z (_ : Unit) => z = rv) (fun _ t => va_P D vwCl (mW cI cZ ad Fz Gz) t.heap) (mA cI cZ ad)) (List.toArray ([.ref (ad 99), .int x1] : List Value)) s 0 0 (mA cI cZ ad)) (F0 m 12 ls []) := by
    intro n12
    induction n12 with
    | zero =>
      intro F G x2 H locs hP hS ls hl h
      cases h
    | succ n12 ih12 =>
      intro F G x2 H locs hP hS ls hl h
      replace h : f_X5_hang_L12_b (f_X5_hang_L12 x1 n12) x1 F G x2 = some (rv, Fz, Gz) := h
      refine lv_iload_n hx hb dX5_hang_12 rfl (lv_at hl 2 rfl) ?_
      refine lv_sipush (v := 144) hx hb dX5_hang_13 (by decide) ?_
      refine q_icmp_ge (tgt := 32) hx hb dX5_hang_16 (by decide) h (fun h => ?_) (fun h => ?_)
      · refine lv_iload_n hx hb dX5_hang_32 rfl (lv_at hl 1 rfl) ?_
        refine lv_iconst (v := 1) hx hb dX5_hang_33 (by decide) ?_
        refine lv_iadd hx hb dX5_hang_34 ?_
        refine q_nm h (fun v11 h => ?_)
        refine lv_istore_n (lv' := [(2, .int (v11)), (0, .ref (ad 99)), (1, .int (x1))]) hx hb dX5_hang_35 rfl hl (by decide) rfl (fun ls hl => ?_)
        exact j36 1000 F G v11 _ _ hP hS _ (lv_sub hl [1, 2, 0] rfl) h
      · refine lv_aload_n hx hb dX5_hang_19 rfl (lv_at hl 0 rfl) ?_
        refine va_get hx hb hts hi_X5_hang_X5 hown hK hP 0 (m_o99 cI cZ ad F G) rfl 47 (by decide) (hts _ (List.mem_of_getElem? (i := 1) rfl)) (fun _ h9 => h9) rfl dX5_hang_20 ?_
        refine lv_iload_n hx hb dX5_hang_23 rfl (lv_at hl 2 rfl) ?_
        refine lv_iconst (v := 0) hx hb dX5_hang_24 (by decide) ?_
        refine q_stz hx hb hK hP (mW_D hDD _ _) hS 26 1 47 (fun z => mW cI cZ ad F z) (m_a47 cI cZ ad F G) rfl (m_g47 cI cZ ad F G _) dX5_hang_25 h (fun G12 H locs h hP hS => ?_)
        refine q_iinc (j := 2) (d := (1 : Int32)) (lv2 := fun v13 => [(2, .int (v13)), (0, .ref (ad 99)), (1, .int (x1))]) hx hb dX5_hang_26 hl rfl (by decide) (by decide) (fun _ => rfl) h (fun v13 ls hl h => ?_)
        refine lv_goto (tgt := 12) hx hb dX5_hang_29 (by decide) ?_
        exact ih12 F G12 v13 _ _ hP hS _ (lv_sub hl [1, 2, 0] rfl) h
  refine lv_aload_n hx hb dX5_hang_0 rfl (lv_at hl 0 rfl) ?_
  refine lv_iload_n hx hb dX5_hang_1 rfl (lv_at hl 1 rfl) ?_
  obtain ⟨v14, hc15, h⟩ := q_some h
  refine q_cs (W.runV (C := RX5) (As := [.int (x1)]) (rest := []) ⟨hx, hb, hml, hown, hts⟩ (mt_X5_isPicked l D cI cZ ad F G x1 v14 hc15) (cwV 1 hts gX5_hang_X5_isPicked rfl rfl rfl (by decide +kernel) ⟨Nat.le_of_ble_eq_true rfl, Nat.le_of_ble_eq_true rfl⟩) ⟨mR_b, va_recv hK hP (ci := 5) (q0 := 0) rfl rfl, (mR_p hP hK hN).2⟩ rfl rfl hl.1 rfl (lv_room (Nat.le_of_ble_eq_true rfl)) dX5_hang_2 ⟨Nat.le_of_ble_eq_true rfl, Nat.le_of_ble_eq_true rfl⟩) ?_
  refine q_if_ne (tgt := 10) hx hb dX5_hang_5 (by decide) h (fun h => ?_) (fun h => ?_)
  · refine lv_iconst (v := 0) hx hb dX5_hang_10 (by decide) ?_
    refine q_nm h (fun v16 h => ?_)
    refine lv_istore_n (lv' := [(2, .int (v16)), (0, .ref (ad 99)), (1, .int (x1))]) hx hb dX5_hang_11 rfl hl (by decide) rfl (fun ls hl => ?_)
    exact j12 1000 F G v16 _ _ hP hS _ (lv_sub hl [1, 2, 0] rfl) h
  · refine lv_iconst (v := -1) hx hb dX5_hang_8 (by decide) ?_
    have e1 := congrArg Prod.fst (Option.some.inj h)
    have e2 := congrArg (fun z => z.2.1) (Option.some.inj h)
    have e3 := congrArg (fun z => z.2.2) (Option.some.inj h)
    dsimp only at e1 e2 e3
    exact W.iret hx hb hr (fun t ht hW => ⟨⟨_, (), rfl, e1, by show va_P D vwCl _ t.heap; rw [ht, ← e2, ← e3]; exact hP⟩, hS.F ht⟩) hS.2.2 dX5_hang_9
theorem hi_X5_pulls_X5 : ∀ w ∈ u_ws RX5 TX5 48, w ∈ wsX5_pulls := fun w h => (List.mem_cons_of_mem _ (List.mem_append_right _ h))
set_option maxHeartbeats 4000000 in
set_option maxRecDepth 100000 in
theorem mt_X5_pulls (l : Launch) (D : va_G) (cI cZ : ClassId) (ad : Nat → Nat) (F : Nat → Int32) (G : Nat → Nat → Int32) (x1 : Int32) (Fz : Nat → Int32) (Gz : Nat → Nat → Int32) (hDD : va_D (fun _ => True) (mW cI cZ ad (fun _ => 0) (fun _ _ => 0))) (h : f_X5_pulls F G x1 = some (Fz, Gz)) : Met l yX5_pulls wsX5_pulls ({ frames := 2, cells := 0, slots := 0, locals := 45 } : Room) (va_Pc [.ref (ad 99), .int x1] (mR D cI cZ ad F G)) (va_Qv (fun (_ : Unit) => True) (fun _ t => va_P D vwCl (mW cI cZ ad Fz Gz) t.heap) (mA cI cZ ad)) 0 0 (mA cI cZ ad) := by
  refine Met.ofW (cc := cX5_pulls) (maxL := 5) (ret := none) (by decide) rfl ?_
  intro p e s m args below meth c s₁ B hml hv
  obtain ⟨rfl, hP, hK, hN⟩ := hv
  have hx := B.exec
  have hb := B.bytes
  have hr := B.returns
  have hts := atoms_spec (ws := wsX5_pulls) B.pre
  have hown : s.vm.findClass RX5 = some m.cls := findClass_of_methodNamed B.named
  have hlocks := B.notSynchronized
  have hS : va_S (mA cI cZ ad) s.heap s.heap [] := va_S.rf
  have hl := lv_entry ([.ref (ad 99), .int x1]) (n := 5) (Nat.le_of_ble_eq_true rfl)
  rw [lg_entry_eq]
  generalize (lg_sl ([.ref (ad 99), .int x1]) ++ List.replicate (5 - (lg_sl ([.ref (ad 99), .int x1])).length) Slot.unset).toArray = ls at hl ⊢
  have hl : lv_has ls 5 [(0, .ref (ad 99)), (1, .int (x1))] := hl
  have j33 : ∀ n33 : Nat, ∀ (F : Nat → Int32) (G : Nat → Nat → Int32) (x2 : Int32) (H : Heap) (locs : List Loc) , va_P D vwCl (mW cI cZ ad F G) H → va_S (mA cI cZ ad) s.heap H locs → ∀ ls : Array Slot, lv_has ls 5 [(0, .ref (ad 99)), (2, .int (x2))] → f_X5_pulls_L33 x1 n33 F G x2 = some (Fz, Gz) → W p l e (headSpec wsX5_pulls ({ frames := 2, cells := 0, slots := 0, locals := 45 } : Room)).room s m (List.toArray ([.ref (ad 99), .int x1] : List Value)) below meth c H locs 0 0 (MQ below (va_Qv (fun (_ : Unit) => True) (fun _ t => va_P D vwCl (mW cI cZ ad Fz Gz) t.heap) (mA cI cZ ad)) (List.toArray ([.ref (ad 99), .int x1] : List Value)) s 0 0 (mA cI cZ ad)) (F0 m 33 ls []) := by
    intro n33
    induction n33 with
    | zero =>
      intro F G x2 H locs hP hS ls hl h
      cases h
    | succ n33 ih33 =>
      have j41 : ∀ n41 : Nat, ∀ (F : Nat → Int32) (G : Nat → Nat → Int32) (x2 : Int32) (x3 : Int32) (H : Heap) (locs : List Loc) , va_P D vwCl (mW cI cZ ad F G) H → va_S (mA cI cZ ad) s.heap H locs → ∀ ls : Array Slot, lv_has ls 5 [(0, .ref (ad 99)), (2, .int (x2)), (3, .int (x3))] → f_X5_pulls_L41 (f_X5_pulls_L33 x1 n33) x1 n41 F G x2 x3 = some (Fz, Gz) → W p l e (headSpec wsX5_pulls ({ frames := 2, cells := 0, slots := 0, locals := 45 } : Room)).room s m (List.toArray ([.ref (ad 99), .int x1] : List Value)) below meth c H locs 0 0 (MQ below (va_Qv (fun (_ : Unit) => True) (fun _ t => va_P D vwCl (mW cI cZ ad Fz Gz) t.heap) (mA cI cZ ad)) (List.toArray ([.ref (ad 99), .int x1] : List Value)) s 0 0 (mA cI cZ ad)) (F0 m 41 ls []) := by
        intro n41
        induction n41 with
        | zero =>
          intro F G x2 x3 H locs hP hS ls hl h
          cases h
        | succ n41 ih41 =>
          have j109 : ∀ (F : Nat → Int32) (G : Nat → Nat → Int32) (x2 : Int32) (x3 : Int32) (H : Heap) (locs : List Loc) , va_P D vwCl (mW cI cZ ad F G) H → va_S (mA cI cZ ad) s.heap H locs → ∀ ls : Array Slot, lv_has ls 5 [(0, .ref (ad 99)), (2, .int (x2)), (3, .int (x3))] → f_X5_pulls_B109 (f_X5_pulls_L33 x1 n33) (f_X5_pulls_L41 (f_X5_pulls_L33 x1 n33) x1 n41) x1 F G x2 x3 = some (Fz, Gz) → W p l e (headSpec wsX5_pulls ({ frames := 2, cells := 0, slots := 0, locals := 45 } : Room)).room s m (List.toArray ([.ref (ad 99), .int x1] : List Value)) below meth c H locs 0 0 (MQ below (va_Qv (fun (_ : Unit) => True) (fun _ t => va_P D vwCl (mW cI cZ ad Fz Gz) t.heap) (mA cI cZ ad)) (List.toArray ([.ref (ad 99), .int x1] : List Value)) s 0 0 (mA cI cZ ad)) (F0 m 109 ls []) := by
            intro F G x2 x3 H locs hP hS ls hl h
            refine q_iinc (j := 2) (d := (1 : Int32)) (lv2 := fun v1 => [(3, .int (v1)), (0, .ref (ad 99)), (2, .int (x2))]) hx hb dX5_pulls_109 hl rfl (by decide) (by decide) (fun _ => rfl) h (fun v1 ls hl h => ?_)
            refine lv_goto (tgt := 41) hx hb dX5_pulls_112 (by decide) ?_
            exact ih41 F G x2 v1 _ _ hP hS _ (lv_sub hl [1, 2, 0] rfl) h
          have j52 : ∀ n52 : Nat, ∀ (F : Nat → Int32) (G : Nat → Nat → Int32) (x2 : Int32) (x3 : Int32) (x4 : Int32) (H : Heap) (locs : List Loc) , va_P D vwCl (mW cI cZ ad F G) H → va_S (mA cI cZ ad) s.heap H locs → ∀ ls : Array Slot, lv_has ls 5 [(0, .ref (ad 99)), (2, .int (x2)), (3, .int (x3)), (4, .int (x4))] → f_X5_pulls_L52 (f_X5_pulls_L33 x1 n33) (f_X5_pulls_L41 (f_X5_pulls_L33 x1 n33) x1 n41) x1 n52 F G x2 x3 x4 = some (Fz, Gz) → W p l e (headSpec wsX5_pulls ({ frames := 2, cells := 0, slots := 0, locals := 45 } : Room)).room s m (List.toArray ([.ref (ad 99), .int x1] : List Value)) below meth c H locs 0 0 (MQ below (va_Qv (fun (_ : Unit) => True) (fun _ t => va_P D vwCl (mW cI cZ ad Fz Gz) t.heap) (mA cI cZ ad)) (List.toArray ([.ref (ad 99), .int x1] : List Value)) s 0 0 (mA cI cZ ad)) (F0 m 52 ls []) := by
            intro n52
            induction n52 with
            | zero =>
              intro F G x2 x3 x4 H locs hP hS ls hl h
              cases h
            | succ n52 ih52 =>
              have j103 : ∀ (F : Nat → Int32) (G : Nat → Nat → Int32) (x2 : Int32) (x3 : Int32) (x4 : Int32) (H : Heap) (locs : List Loc) , va_P D vwCl (mW cI cZ ad F G) H → va_S (mA cI cZ ad) s.heap H locs → ∀ ls : Array Slot, lv_has ls 5 [(0, .ref (ad 99)), (2, .int (x2)), (3, .int (x3)), (4, .int (x4))] → f_X5_pulls_B103 (f_X5_pulls_L33 x1 n33) (f_X5_pulls_L41 (f_X5_pulls_L33 x1 n33) x1 n41) (f_X5_pulls_L52 (f_X5_pulls_L33 x1 n33) (f_X5_pulls_L41 (f_X5_pulls_L33 x1 n33) x1 n41) x1 n52) x1 F G x2 x3 x4 = some (Fz, Gz) → W p l e (headSpec wsX5_pulls ({ frames := 2, cells := 0, slots := 0, locals := 45 } : Room)).room s m (List.toArray ([.ref (ad 99), .int x1] : List Value)) below meth c H locs 0 0 (MQ below (va_Qv (fun (_ : Unit) => True) (fun _ t => va_P D vwCl (mW cI cZ ad Fz Gz) t.heap) (mA cI cZ ad)) (List.toArray ([.ref (ad 99), .int x1] : List Value)) s 0 0 (mA cI cZ ad)) (F0 m 103 ls []) := by
                intro F G x2 x3 x4 H locs hP hS ls hl h
                refine q_iinc (j := 3) (d := (1 : Int32)) (lv2 := fun v2 => [(4, .int (v2)), (0, .ref (ad 99)), (2, .int (x2)), (3, .int (x3))]) hx hb dX5_pulls_103 hl rfl (by decide) (by decide) (fun _ => rfl) h (fun v2 ls hl h => ?_)
                refine lv_goto (tgt := 52) hx hb dX5_pulls_106 (by decide) ?_
                exact ih52 F G x2 x3 v2 _ _ hP hS _ (lv_sub hl [1, 2, 3, 0] rfl) h
              intro F G x2 x3 x4 H locs hP hS ls hl h
              replace h : f_X5_pulls_L52_b (f_X5_pulls_L33 x1 n33) (f_X5_pulls_L41 (f_X5_pulls_L33 x1 n33) x1 n41) (f_X5_pulls_L52 (f_X5_pulls_L33 x1 n33) (f_X5_pulls_L41 (f_X5_pulls_L33 x1 n33) x1 n41) x1 n52) x1 F G x2 x3 x4 = some (Fz, Gz) := h
              refine lv_iload hx hb dX5_pulls_52 (lv_at hl 3 rfl) ?_
              refine lv_aload_n hx hb dX5_pulls_54 rfl (lv_at hl 0 rfl) ?_
              refine va_get hx hb hts hi_X5_pulls_X5 hown hK hP 0 (m_o99 cI cZ ad F G) rfl 32 (by decide) (hts _ (List.mem_of_getElem? (i := 2) rfl)) (fun _ h9 => h9) rfl dX5_pulls_55 ?_
              refine q_icmp_ge (tgt := 109) hx hb dX5_pulls_58 (by decide) h (fun h => ?_) (fun h => ?_)
              · exact j109 F G x2 x3 _ _ hP hS _ (lv_sub hl [0, 1, 2] rfl) h
              · refine lv_aload_n hx hb dX5_pulls_61 rfl (lv_at hl 0 rfl) ?_
                refine va_get hx hb hts hi_X5_pulls_X5 hown hK hP 0 (m_o99 cI cZ ad F G) rfl 47 (by decide) (hts _ (List.mem_of_getElem? (i := 1) rfl)) (fun _ h9 => h9) rfl dX5_pulls_62 ?_
                refine lv_iload_n hx hb dX5_pulls_65 rfl (lv_at hl 2 rfl) ?_
                refine q_ldz hx hb hK hP 26 1 (m_a47 cI cZ ad F G) rfl dX5_pulls_66 h (fun v3 h => ?_)
                refine q_if_eq (tgt := 109) hx hb dX5_pulls_67 (by decide) h (fun h => ?_) (fun h => ?_)
                · exact j109 F G x2 x3 _ _ hP hS _ (lv_sub hl [0, 1, 2] rfl) h
                · refine lv_aload_n hx hb dX5_pulls_70 rfl (lv_at hl 0 rfl) ?_
                  refine va_get hx hb hts hi_X5_pulls_X5 hown hK hP 0 (m_o99 cI cZ ad F G) rfl 47 (by decide) (hts _ (List.mem_of_getElem? (i := 1) rfl)) (fun _ h9 => h9) rfl dX5_pulls_71 ?_
                  refine lv_iload hx hb dX5_pulls_74 (lv_at hl 3 rfl) ?_
                  refine q_ldz hx hb hK hP 26 1 (m_a47 cI cZ ad F G) rfl dX5_pulls_76 h (fun v4 h => ?_)
                  refine q_if_ne (tgt := 103) hx hb dX5_pulls_77 (by decide) h (fun h => ?_) (fun h => ?_)
                  · exact j103 F G x2 x3 x4 _ _ hP hS _ (lv_sub hl [0, 1, 2, 3] rfl) h
                  · refine lv_aload_n hx hb dX5_pulls_80 rfl (lv_at hl 0 rfl) ?_
                    refine lv_iload_n hx hb dX5_pulls_81 rfl (lv_at hl 2 rfl) ?_
                    refine lv_iload hx hb dX5_pulls_82 (lv_at hl 3 rfl) ?_
                    obtain ⟨v5, hc6, h⟩ := q_some h
                    refine q_cs (W.runV (C := RX5) (As := [.int (x3), .int (x4)]) (rest := []) ⟨hx, hb, hml, hown, hts⟩ (mt_X5_drawsOut l D cI cZ ad F G x3 x4 v5 hc6) (cwV 2 hts gX5_pulls_X5_drawsOut rfl rfl rfl (by decide +kernel) ⟨Nat.le_of_ble_eq_true rfl, Nat.le_of_ble_eq_true rfl⟩) ⟨mR_b, va_recv hK hP (ci := 5) (q0 := 0) rfl rfl, (mR_p hP hK hN).2⟩ rfl rfl hl.1 rfl (lv_room (Nat.le_of_ble_eq_true rfl)) dX5_pulls_84 ⟨Nat.le_of_ble_eq_true rfl, Nat.le_of_ble_eq_true rfl⟩) ?_
                    refine q_if_ne (tgt := 93) hx hb dX5_pulls_87 (by decide) h (fun h => ?_) (fun h => ?_)
                    · refine lv_aload_n hx hb dX5_pulls_93 rfl (lv_at hl 0 rfl) ?_
                      refine va_get hx hb hts hi_X5_pulls_X5 hown hK hP 0 (m_o99 cI cZ ad F G) rfl 47 (by decide) (hts _ (List.mem_of_getElem? (i := 1) rfl)) (fun _ h9 => h9) rfl dX5_pulls_94 ?_
                      refine lv_iload hx hb dX5_pulls_97 (lv_at hl 3 rfl) ?_
                      refine lv_iconst (v := 1) hx hb dX5_pulls_99 (by decide) ?_
                      refine q_stz hx hb hK hP (mW_D hDD _ _) hS 26 1 47 (fun z => mW cI cZ ad F z) (m_a47 cI cZ ad F G) rfl (m_g47 cI cZ ad F G _) dX5_pulls_100 h (fun G7 H locs h hP hS => ?_)
                      refine lv_iconst (v := 1) hx hb dX5_pulls_101 (by decide) ?_
                      refine q_nm h (fun v8 h => ?_)
                      refine lv_istore_n (lv' := [(2, .int (v8)), (0, .ref (ad 99)), (3, .int (x3)), (4, .int (x4))]) hx hb dX5_pulls_102 rfl hl (by decide) rfl (fun ls hl => ?_)
                      exact j103 F G7 v8 x3 x4 _ _ hP hS _ (lv_sub hl [1, 0, 2, 3] rfl) h
                    · refine lv_goto (tgt := 103) hx hb dX5_pulls_90 (by decide) ?_
                      exact j103 F G x2 x3 x4 _ _ hP hS _ (lv_sub hl [0, 1, 2, 3] rfl) h
          intro F G x2 x3 H locs hP hS ls hl h
          replace h : f_X5_pulls_L41_b (f_X5_pulls_L33 x1 n33) (f_X5_pulls_L41 (f_X5_pulls_L33 x1 n33) x1 n41) x1 F G x2 x3 = some (Fz, Gz) := h
          refine lv_iload_n hx hb dX5_pulls_41 rfl (lv_at hl 2 rfl) ?_
          refine lv_aload_n hx hb dX5_pulls_42 rfl (lv_at hl 0 rfl) ?_
          refine va_get hx hb hts hi_X5_pulls_X5 hown hK hP 0 (m_o99 cI cZ ad F G) rfl 32 (by decide) (hts _ (List.mem_of_getElem? (i := 2) rfl)) (fun _ h9 => h9) rfl dX5_pulls_43 ?_
          refine q_icmp_ge (tgt := 115) hx hb dX5_pulls_46 (by decide) h (fun h => ?_) (fun h => ?_)
          · refine lv_goto (tgt := 33) hx hb dX5_pulls_115 (by decide) ?_
            exact ih33 F G x2 _ _ hP hS _ (lv_sub hl [0, 1] rfl) h
          · refine lv_iconst (v := 0) hx hb dX5_pulls_49 (by decide) ?_
            refine q_nm h (fun v9 h => ?_)
            refine lv_istore (lv' := [(4, .int (v9)), (0, .ref (ad 99)), (2, .int (x2)), (3, .int (x3))]) hx hb dX5_pulls_50 hl (by decide) rfl (fun ls hl => ?_)
            exact j52 1000 F G x2 x3 v9 _ _ hP hS _ (lv_sub hl [1, 2, 3, 0] rfl) h
      intro F G x2 H locs hP hS ls hl h
      replace h : f_X5_pulls_L33_b (f_X5_pulls_L33 x1 n33) x1 F G x2 = some (Fz, Gz) := h
      refine lv_iload_n hx hb dX5_pulls_33 rfl (lv_at hl 1 rfl) ?_
      refine q_if_eq (tgt := 118) hx hb dX5_pulls_34 (by decide) h (fun h => ?_) (fun h => ?_)
      · have e2 := congrArg Prod.fst (Option.some.inj h)
        have e3 := congrArg Prod.snd (Option.some.inj h)
        dsimp only at e2 e3
        exact W.vret hx hb hr (fun t ht hW => ⟨⟨(), rfl, trivial, by show va_P D vwCl _ t.heap; rw [ht, ← e2, ← e3]; exact hP⟩, hS.F ht⟩) hS.2.2 dX5_pulls_118
      · refine lv_iconst (v := 0) hx hb dX5_pulls_37 (by decide) ?_
        refine q_nm h (fun v10 h => ?_)
        refine lv_istore_n (lv' := [(2, .int (v10)), (0, .ref (ad 99))]) hx hb dX5_pulls_38 rfl hl (by decide) rfl (fun ls hl => ?_)
        refine lv_iconst (v := 0) hx hb dX5_pulls_39 (by decide) ?_
        refine q_nm h (fun v11 h => ?_)
        refine lv_istore_n (lv' := [(3, .int (v11)), (2, .int (v10)), (0, .ref (ad 99))]) hx hb dX5_pulls_40 rfl hl (by decide) rfl (fun ls hl => ?_)
        exact j41 1000 F G v10 v11 _ _ hP hS _ (lv_sub hl [2, 1, 0] rfl) h
  have j2 : ∀ n2 : Nat, ∀ (F : Nat → Int32) (G : Nat → Nat → Int32) (x2 : Int32) (H : Heap) (locs : List Loc) , va_P D vwCl (mW cI cZ ad F G) H → va_S (mA cI cZ ad) s.heap H locs → ∀ ls : Array Slot, lv_has ls 5 [(0, .ref (ad 99)), (1, .int (x1)), (2, .int (x2))] → f_X5_pulls_L2 x1 n2 F G x2 = some (Fz, Gz) → W p l e (headSpec wsX5_pulls ({ frames := 2, cells := 0, slots := 0, locals := 45 } : Room)).room s m (List.toArray ([.ref (ad 99), .int x1] : List Value)) below meth c H locs 0 0 (MQ below (va_Qv (fun (_ : Unit) => True) (fun _ t => va_P D vwCl (mW cI cZ ad Fz Gz) t.heap) (mA cI cZ ad)) (List.toArray ([.ref (ad 99), .int x1] : List Value)) s 0 0 (mA cI cZ ad)) (F0 m 2 ls []) := by
    intro n2
    induction n2 with
    | zero =>
      intro F G x2 H locs hP hS ls hl h
      cases h
    | succ n2 ih2 =>
      have j24 : ∀ (F : Nat → Int32) (G : Nat → Nat → Int32) (x2 : Int32) (s1 : Int32) (s2 : Int32) (H : Heap) (locs : List Loc) , va_P D vwCl (mW cI cZ ad F G) H → va_S (mA cI cZ ad) s.heap H locs → ∀ ls : Array Slot, lv_has ls 5 [(0, .ref (ad 99)), (1, .int (x1)), (2, .int (x2))] → f_X5_pulls_B24 (f_X5_pulls_L2 x1 n2) x1 F G x2 s1 s2 = some (Fz, Gz) → W p l e (headSpec wsX5_pulls ({ frames := 2, cells := 0, slots := 0, locals := 45 } : Room)).room s m (List.toArray ([.ref (ad 99), .int x1] : List Value)) below meth c H locs 0 0 (MQ below (va_Qv (fun (_ : Unit) => True) (fun _ t => va_P D vwCl (mW cI cZ ad Fz Gz) t.heap) (mA cI cZ ad)) (List.toArray ([.ref (ad 99), .int x1] : List Value)) s 0 0 (mA cI cZ ad)) (F0 m 24 ls [.int (s2), .int (s1), .ref (ad 47)]) := by
        intro F G x2 s1 s2 H locs hP hS ls hl h
        refine q_stz hx hb hK hP (mW_D hDD _ _) hS 26 1 47 (fun z => mW cI cZ ad F z) (m_a47 cI cZ ad F G) rfl (m_g47 cI cZ ad F G _) dX5_pulls_24 h (fun G12 H locs h hP hS => ?_)
        refine q_iinc (j := 2) (d := (1 : Int32)) (lv2 := fun v13 => [(2, .int (v13)), (0, .ref (ad 99)), (1, .int (x1))]) hx hb dX5_pulls_25 hl rfl (by decide) (by decide) (fun _ => rfl) h (fun v13 ls hl h => ?_)
        refine lv_goto (tgt := 2) hx hb dX5_pulls_28 (by decide) ?_
        exact ih2 F G12 v13 _ _ hP hS _ (lv_sub hl [1, 2, 0] rfl) h
      intro F G x2 H locs hP hS ls hl h
      replace h : f_X5_pulls_L2_b (f_X5_pulls_L2 x1 n2) x1 F G x2 = some (Fz, Gz) := h
      refine lv_iload_n hx hb dX5_pulls_2 rfl (lv_at hl 2 rfl) ?_
      refine lv_sipush (v := 144) hx hb dX5_pulls_3 (by decide) ?_
      refine q_icmp_ge (tgt := 31) hx hb dX5_pulls_6 (by decide) h (fun h => ?_) (fun h => ?_)
      · refine lv_iconst (v := 1) hx hb dX5_pulls_31 (by decide) ?_
        refine q_nm h (fun v14 h => ?_)
        refine lv_istore_n (lv' := [(2, .int (v14)), (0, .ref (ad 99)), (1, .int (x1))]) hx hb dX5_pulls_32 rfl hl (by decide) rfl (fun ls hl => ?_)
        exact j33 1000 F G v14 _ _ hP hS _ (lv_sub hl [1, 0] rfl) h
      · refine lv_aload_n hx hb dX5_pulls_9 rfl (lv_at hl 0 rfl) ?_
        refine va_get hx hb hts hi_X5_pulls_X5 hown hK hP 0 (m_o99 cI cZ ad F G) rfl 47 (by decide) (hts _ (List.mem_of_getElem? (i := 1) rfl)) (fun _ h9 => h9) rfl dX5_pulls_10 ?_
        refine lv_iload_n hx hb dX5_pulls_13 rfl (lv_at hl 2 rfl) ?_
        refine lv_iload_n hx hb dX5_pulls_14 rfl (lv_at hl 2 rfl) ?_
        refine lv_iload_n hx hb dX5_pulls_15 rfl (lv_at hl 1 rfl) ?_
        refine q_icmp_ne (tgt := 23) hx hb dX5_pulls_16 (by decide) h (fun h => ?_) (fun h => ?_)
        · refine lv_iconst (v := 0) hx hb dX5_pulls_23 (by decide) ?_
          exact j24 F G x2 x2 (0 : Int32) _ _ hP hS _ (lv_sub hl [0, 1, 2] rfl) h
        · refine lv_iconst (v := 1) hx hb dX5_pulls_19 (by decide) ?_
          refine lv_goto (tgt := 24) hx hb dX5_pulls_20 (by decide) ?_
          exact j24 F G x2 x2 (1 : Int32) _ _ hP hS _ (lv_sub hl [0, 1, 2] rfl) h
  refine lv_iconst (v := 0) hx hb dX5_pulls_0 (by decide) ?_
  refine q_nm h (fun v15 h => ?_)
  refine lv_istore_n (lv' := [(2, .int (v15)), (0, .ref (ad 99)), (1, .int (x1))]) hx hb dX5_pulls_1 rfl hl (by decide) rfl (fun ls hl => ?_)
  exact j2 1000 F G v15 _ _ hP hS _ (lv_sub hl [1, 2, 0] rfl) h
set_option maxHeartbeats 4000000 in
set_option maxRecDepth 100000 in
theorem mt_X5_pull (l : Launch) (D : va_G) (cI cZ : ClassId) (ad : Nat → Nat) (F : Nat → Int32) (G : Nat → Nat → Int32) (x1 : Int32) (rv : Int32) (Fz : Nat → Int32) (Gz : Nat → Nat → Int32) (hDD : va_D (fun _ => True) (mW cI cZ ad (fun _ => 0) (fun _ _ => 0))) (h : f_X5_pull F G x1 = some (rv, Fz, Gz)) : Met l yX5_pull wsX5_pull ({ frames := 3, cells := 0, slots := 0, locals := 69 } : Room) (va_Pc [.ref (ad 99), .int x1] (mR D cI cZ ad F G)) (va_Qi (fun z (_ : Unit) => z = rv) (fun _ t => va_P D vwCl (mW cI cZ ad Fz Gz) t.heap) (mA cI cZ ad)) 0 0 (mA cI cZ ad) := by
  refine Met.ofW (cc := cX5_pull) (maxL := 2) (ret := (some .int)) (by decide) rfl ?_
  intro p e s m args below meth c s₁ B hml hv
  obtain ⟨rfl, hP, hK, hN⟩ := hv
  have hx := B.exec
  have hb := B.bytes
  have hr := B.returns
  have hts := atoms_spec (ws := wsX5_pull) B.pre
  have hown : s.vm.findClass RX5 = some m.cls := findClass_of_methodNamed B.named
  have hlocks := B.notSynchronized
  have hS : va_S (mA cI cZ ad) s.heap s.heap [] := va_S.rf
  have hl := lv_entry ([.ref (ad 99), .int x1]) (n := 2) (Nat.le_of_ble_eq_true rfl)
  rw [lg_entry_eq]
  generalize (lg_sl ([.ref (ad 99), .int x1]) ++ List.replicate (2 - (lg_sl ([.ref (ad 99), .int x1])).length) Slot.unset).toArray = ls at hl ⊢
  have hl : lv_has ls 2 [(0, .ref (ad 99)), (1, .int (x1))] := hl
  refine lv_aload_n hx hb dX5_pull_0 rfl (lv_at hl 0 rfl) ?_
  refine lv_iload_n hx hb dX5_pull_1 rfl (lv_at hl 1 rfl) ?_
  obtain ⟨v1, hc2, h⟩ := q_some h
  refine q_cs (W.runV (C := RX5) (As := [.int (x1)]) (rest := []) ⟨hx, hb, hml, hown, hts⟩ (mt_X5_isPicked l D cI cZ ad F G x1 v1 hc2) (cwV 1 hts gX5_pull_X5_isPicked rfl rfl rfl (by decide +kernel) ⟨Nat.le_of_ble_eq_true rfl, Nat.le_of_ble_eq_true rfl⟩) ⟨mR_b, va_recv hK hP (ci := 5) (q0 := 0) rfl rfl, (mR_p hP hK hN).2⟩ rfl rfl hl.1 rfl (lv_room (Nat.le_of_ble_eq_true rfl)) dX5_pull_2 ⟨Nat.le_of_ble_eq_true rfl, Nat.le_of_ble_eq_true rfl⟩) ?_
  refine q_if_ne (tgt := 10) hx hb dX5_pull_5 (by decide) h (fun h => ?_) (fun h => ?_)
  · refine lv_aload_n hx hb dX5_pull_10 rfl (lv_at hl 0 rfl) ?_
    refine lv_iload_n hx hb dX5_pull_11 rfl (lv_at hl 1 rfl) ?_
    obtain ⟨⟨F4, G5⟩, hc6, h⟩ := q_some h
    refine q_cv (va_runV (C := RX5) (As := [.int (x1)]) (rest := []) ⟨hx, hb, hml, hown, hts⟩ (mt_X5_pulls l D cI cZ ad F G x1 F4 G5 hDD hc6) (cwV 1 hts gX5_pull_X5_pulls rfl rfl rfl (by decide +kernel) ⟨Nat.le_of_ble_eq_true rfl, Nat.le_of_ble_eq_true rfl⟩) ⟨mR_b, va_recv hK hP (ci := 5) (q0 := 0) rfl rfl, (mR_p hP hK hN).2⟩ rfl rfl hl.1 rfl (lv_room (Nat.le_of_ble_eq_true rfl)) dX5_pull_12 ⟨Nat.le_of_ble_eq_true rfl, Nat.le_of_ble_eq_true rfl⟩) hS (fun H locs hP hS => ?_)
    refine lv_aload_n hx hb dX5_pull_15 rfl (lv_at hl 0 rfl) ?_
    obtain ⟨v7, hc8, h⟩ := q_some h
    refine q_cs (W.runV (C := RX5) (As := []) (rest := []) ⟨hx, hb, hml, hown, hts⟩ (mt_X5_manyIn l D cI cZ ad F4 G5  v7 hc8) (cwV 0 hts gX5_pull_X5_manyIn rfl rfl rfl (by decide +kernel) ⟨Nat.le_of_ble_eq_true rfl, Nat.le_of_ble_eq_true rfl⟩) ⟨mR_b, va_recv hK hP (ci := 5) (q0 := 0) rfl rfl, (mR_p hP hK hN).2⟩ rfl rfl hl.1 rfl (lv_room (Nat.le_of_ble_eq_true rfl)) dX5_pull_16 ⟨Nat.le_of_ble_eq_true rfl, Nat.le_of_ble_eq_true rfl⟩) ?_
    have e1 := congrArg Prod.fst (Option.some.inj h)
    have e2 := congrArg (fun z => z.2.1) (Option.some.inj h)
    have e3 := congrArg (fun z => z.2.2) (Option.some.inj h)
    dsimp only at e1 e2 e3
    exact W.iret hx hb hr (fun t ht hW => ⟨⟨_, (), rfl, e1, by show va_P D vwCl _ t.heap; rw [ht, ← e2, ← e3]; exact hP⟩, hS.F ht⟩) hS.2.2 dX5_pull_19
  · refine lv_iconst (v := -1) hx hb dX5_pull_8 (by decide) ?_
    have e1 := congrArg Prod.fst (Option.some.inj h)
    have e2 := congrArg (fun z => z.2.1) (Option.some.inj h)
    have e3 := congrArg (fun z => z.2.2) (Option.some.inj h)
    dsimp only at e1 e2 e3
    exact W.iret hx hb hr (fun t ht hW => ⟨⟨_, (), rfl, e1, by show va_P D vwCl _ t.heap; rw [ht, ← e2, ← e3]; exact hP⟩, hS.F ht⟩) hS.2.2 dX5_pull_9
theorem hi_X5_pulled_X5 : ∀ w ∈ u_ws RX5 TX5 48, w ∈ wsX5_pulled := fun w h => (List.mem_cons_of_mem _ (List.mem_append_right _ h))
set_option maxHeartbeats 4000000 in
set_option maxRecDepth 100000 in
theorem mt_X5_pulled (l : Launch) (D : va_G) (cI cZ : ClassId) (ad : Nat → Nat) (F : Nat → Int32) (G : Nat → Nat → Int32) (x1 : Int32) (x2 : Int32) (rv : Int32) (Fz : Nat → Int32) (Gz : Nat → Nat → Int32) (hDD : va_D (fun _ => True) (mW cI cZ ad (fun _ => 0) (fun _ _ => 0))) (h : f_X5_pulled F G x1 x2 = some (rv, Fz, Gz)) : Met l yX5_pulled wsX5_pulled ({ frames := 3, cells := 0, slots := 0, locals := 69 } : Room) (va_Pc [.ref (ad 99), .int x1, .int x2] (mR D cI cZ ad F G)) (va_Qi (fun z (_ : Unit) => z = rv) (fun _ t => va_P D vwCl (mW cI cZ ad Fz Gz) t.heap) (mA cI cZ ad)) 0 0 (mA cI cZ ad) := by
  refine Met.ofW (cc := cX5_pulled) (maxL := 3) (ret := (some .int)) (by decide) rfl ?_
  intro p e s m args below meth c s₁ B hml hv
  obtain ⟨rfl, hP, hK, hN⟩ := hv
  have hx := B.exec
  have hb := B.bytes
  have hr := B.returns
  have hts := atoms_spec (ws := wsX5_pulled) B.pre
  have hown : s.vm.findClass RX5 = some m.cls := findClass_of_methodNamed B.named
  have hlocks := B.notSynchronized
  have hS : va_S (mA cI cZ ad) s.heap s.heap [] := va_S.rf
  have hl := lv_entry ([.ref (ad 99), .int x1, .int x2]) (n := 3) (Nat.le_of_ble_eq_true rfl)
  rw [lg_entry_eq]
  generalize (lg_sl ([.ref (ad 99), .int x1, .int x2]) ++ List.replicate (3 - (lg_sl ([.ref (ad 99), .int x1, .int x2])).length) Slot.unset).toArray = ls at hl ⊢
  have hl : lv_has ls 3 [(0, .ref (ad 99)), (1, .int (x1)), (2, .int (x2))] := hl
  refine lv_aload_n hx hb dX5_pulled_0 rfl (lv_at hl 0 rfl) ?_
  refine lv_iload_n hx hb dX5_pulled_1 rfl (lv_at hl 1 rfl) ?_
  obtain ⟨v1, hc2, h⟩ := q_some h
  refine q_cs (W.runV (C := RX5) (As := [.int (x1)]) (rest := []) ⟨hx, hb, hml, hown, hts⟩ (mt_X5_isPicked l D cI cZ ad F G x1 v1 hc2) (cwV 1 hts gX5_pulled_X5_isPicked rfl rfl rfl (by decide +kernel) ⟨Nat.le_of_ble_eq_true rfl, Nat.le_of_ble_eq_true rfl⟩) ⟨mR_b, va_recv hK hP (ci := 5) (q0 := 0) rfl rfl, (mR_p hP hK hN).2⟩ rfl rfl hl.1 rfl (lv_room (Nat.le_of_ble_eq_true rfl)) dX5_pulled_2 ⟨Nat.le_of_ble_eq_true rfl, Nat.le_of_ble_eq_true rfl⟩) ?_
  refine q_if_eq (tgt := 16) hx hb dX5_pulled_5 (by decide) h (fun h => ?_) (fun h => ?_)
  · refine lv_iconst (v := -1) hx hb dX5_pulled_16 (by decide) ?_
    have e1 := congrArg Prod.fst (Option.some.inj h)
    have e2 := congrArg (fun z => z.2.1) (Option.some.inj h)
    have e3 := congrArg (fun z => z.2.2) (Option.some.inj h)
    dsimp only at e1 e2 e3
    exact W.iret hx hb hr (fun t ht hW => ⟨⟨_, (), rfl, e1, by show va_P D vwCl _ t.heap; rw [ht, ← e2, ← e3]; exact hP⟩, hS.F ht⟩) hS.2.2 dX5_pulled_17
  · refine lv_aload_n hx hb dX5_pulled_8 rfl (lv_at hl 0 rfl) ?_
    refine lv_iload_n hx hb dX5_pulled_9 rfl (lv_at hl 2 rfl) ?_
    obtain ⟨v3, hc4, h⟩ := q_some h
    refine q_cs (W.runV (C := RX5) (As := [.int (x2)]) (rest := []) ⟨hx, hb, hml, hown, hts⟩ (mt_X5_isPicked l D cI cZ ad F G x2 v3 hc4) (cwV 1 hts gX5_pulled_X5_isPicked rfl rfl rfl (by decide +kernel) ⟨Nat.le_of_ble_eq_true rfl, Nat.le_of_ble_eq_true rfl⟩) ⟨mR_b, va_recv hK hP (ci := 5) (q0 := 0) rfl rfl, (mR_p hP hK hN).2⟩ rfl rfl hl.1 rfl (lv_room (Nat.le_of_ble_eq_true rfl)) dX5_pulled_10 ⟨Nat.le_of_ble_eq_true rfl, Nat.le_of_ble_eq_true rfl⟩) ?_
    refine q_if_ne (tgt := 18) hx hb dX5_pulled_13 (by decide) h (fun h => ?_) (fun h => ?_)
    · refine lv_aload_n hx hb dX5_pulled_18 rfl (lv_at hl 0 rfl) ?_
      refine lv_iload_n hx hb dX5_pulled_19 rfl (lv_at hl 1 rfl) ?_
      obtain ⟨⟨F6, G7⟩, hc8, h⟩ := q_some h
      refine q_cv (va_runV (C := RX5) (As := [.int (x1)]) (rest := []) ⟨hx, hb, hml, hown, hts⟩ (mt_X5_pulls l D cI cZ ad F G x1 F6 G7 hDD hc8) (cwV 1 hts gX5_pulled_X5_pulls rfl rfl rfl (by decide +kernel) ⟨Nat.le_of_ble_eq_true rfl, Nat.le_of_ble_eq_true rfl⟩) ⟨mR_b, va_recv hK hP (ci := 5) (q0 := 0) rfl rfl, (mR_p hP hK hN).2⟩ rfl rfl hl.1 rfl (lv_room (Nat.le_of_ble_eq_true rfl)) dX5_pulled_20 ⟨Nat.le_of_ble_eq_true rfl, Nat.le_of_ble_eq_true rfl⟩) hS (fun H locs hP hS => ?_)
      refine lv_aload_n hx hb dX5_pulled_23 rfl (lv_at hl 0 rfl) ?_
      refine va_get hx hb hts hi_X5_pulled_X5 hown hK hP 0 (m_o99 cI cZ ad F6 G7) rfl 47 (by decide) (hts _ (List.mem_of_getElem? (i := 1) rfl)) (fun _ h9 => h9) rfl dX5_pulled_24 ?_
      refine lv_iload_n hx hb dX5_pulled_27 rfl (lv_at hl 2 rfl) ?_
      refine q_ldz hx hb hK hP 26 1 (m_a47 cI cZ ad F6 G7) rfl dX5_pulled_28 h (fun v9 h => ?_)
      refine q_if_eq (tgt := 36) hx hb dX5_pulled_29 (by decide) h (fun h => ?_) (fun h => ?_)
      · refine lv_iconst (v := 0) hx hb dX5_pulled_36 (by decide) ?_
        have e1 := congrArg Prod.fst (Option.some.inj h)
        have e2 := congrArg (fun z => z.2.1) (Option.some.inj h)
        have e3 := congrArg (fun z => z.2.2) (Option.some.inj h)
        dsimp only at e1 e2 e3
        exact W.iret hx hb hr (fun t ht hW => ⟨⟨_, (), rfl, e1, by show va_P D vwCl _ t.heap; rw [ht, ← e2, ← e3]; exact hP⟩, hS.F ht⟩) hS.2.2 dX5_pulled_37
      · refine lv_iconst (v := 1) hx hb dX5_pulled_32 (by decide) ?_
        refine lv_goto (tgt := 37) hx hb dX5_pulled_33 (by decide) ?_
        have e1 := congrArg Prod.fst (Option.some.inj h)
        have e2 := congrArg (fun z => z.2.1) (Option.some.inj h)
        have e3 := congrArg (fun z => z.2.2) (Option.some.inj h)
        dsimp only at e1 e2 e3
        exact W.iret hx hb hr (fun t ht hW => ⟨⟨_, (), rfl, e1, by show va_P D vwCl _ t.heap; rw [ht, ← e2, ← e3]; exact hP⟩, hS.F ht⟩) hS.2.2 dX5_pulled_37
    · refine lv_iconst (v := -1) hx hb dX5_pulled_16 (by decide) ?_
      have e1 := congrArg Prod.fst (Option.some.inj h)
      have e2 := congrArg (fun z => z.2.1) (Option.some.inj h)
      have e3 := congrArg (fun z => z.2.2) (Option.some.inj h)
      dsimp only at e1 e2 e3
      exact W.iret hx hb hr (fun t ht hW => ⟨⟨_, (), rfl, e1, by show va_P D vwCl _ t.heap; rw [ht, ← e2, ← e3]; exact hP⟩, hS.F ht⟩) hS.2.2 dX5_pulled_17
theorem hi_X5_best_X5 : ∀ w ∈ u_ws RX5 TX5 48, w ∈ wsX5_best := fun w h => (List.mem_cons_of_mem _ (List.mem_append_right _ h))
set_option maxHeartbeats 4000000 in
set_option maxRecDepth 100000 in
theorem mt_X5_best (l : Launch) (D : va_G) (cI cZ : ClassId) (ad : Nat → Nat) (F : Nat → Int32) (G : Nat → Nat → Int32)  (rv : Int32) (Fz : Nat → Int32) (Gz : Nat → Nat → Int32) (hDD : va_D (fun _ => True) (mW cI cZ ad (fun _ => 0) (fun _ _ => 0))) (h : f_X5_best F G  = some (rv, Fz, Gz)) : Met l yX5_best wsX5_best ({ frames := 6, cells := 0, slots := 0, locals := 150 } : Room) (va_Pc [.ref (ad 99)] (mR D cI cZ ad F G)) (va_Qi (fun z (_ : Unit) => z = rv) (fun _ t => va_P D vwCl (mW cI cZ ad Fz Gz) t.heap) (mA cI cZ ad)) 0 0 (mA cI cZ ad) := by
  refine Met.ofW (cc := cX5_best) (maxL := 5) (ret := (some .int)) (by decide) rfl ?_
  intro p e s m args below meth c s₁ B hml hv
  obtain ⟨rfl, hP, hK, hN⟩ := hv
  have hx := B.exec
  have hb := B.bytes
  have hr := B.returns
  have hts := atoms_spec (ws := wsX5_best) B.pre
  have hown : s.vm.findClass RX5 = some m.cls := findClass_of_methodNamed B.named
  have hlocks := B.notSynchronized
  have hS : va_S (mA cI cZ ad) s.heap s.heap [] := va_S.rf
  have hl := lv_entry ([.ref (ad 99)]) (n := 5) (Nat.le_of_ble_eq_true rfl)
  rw [lg_entry_eq]
  generalize (lg_sl ([.ref (ad 99)]) ++ List.replicate (5 - (lg_sl ([.ref (ad 99)])).length) Slot.unset).toArray = ls at hl ⊢
  have hl : lv_has ls 5 [(0, .ref (ad 99))] := hl
  have j9 : ∀ n9 : Nat, ∀ (F : Nat → Int32) (G : Nat → Nat → Int32) (x1 : Int32) (x2 : Int32) (x3 : Int32) (x4 : Int32) (H : Heap) (locs : List Loc) , va_P D vwCl (mW cI cZ ad F G) H → va_S (mA cI cZ ad) s.heap H locs → ∀ ls : Array Slot, lv_has ls 5 [(0, .ref (ad 99)), (1, .int (x1)), (2, .int (x2)), (3, .int (x3)), (4, .int (x4))] → f_X5_best_L9 n9 F G x1 x2 x3 x4 = some (rv, Fz, Gz) → W p l e (headSpec wsX5_best ({ frames := 6, cells := 0, slots := 0, locals := 150 } : Room)).room s m (List.toArray ([.ref (ad 99)] : List Value)) below meth c H locs 0 0 (MQ below (va_Qi (fun z (_ : Unit) => z = rv) (fun _ t => va_P D vwCl (mW cI cZ ad Fz Gz) t.heap) (mA cI cZ ad)) (List.toArray ([.ref (ad 99)] : List Value)) s 0 0 (mA cI cZ ad)) (F0 m 9 ls []) := by
    intro n9
    induction n9 with
    | zero =>
      intro F G x1 x2 x3 x4 H locs hP hS ls hl h
      cases h
    | succ n9 ih9 =>
      have j75 : ∀ (F : Nat → Int32) (G : Nat → Nat → Int32) (x1 : Int32) (x2 : Int32) (x3 : Int32) (x4 : Int32) (H : Heap) (locs : List Loc) , va_P D vwCl (mW cI cZ ad F G) H → va_S (mA cI cZ ad) s.heap H locs → ∀ ls : Array Slot, lv_has ls 5 [(0, .ref (ad 99)), (1, .int (x1)), (2, .int (x2)), (3, .int (x3)), (4, .int (x4))] → f_X5_best_B75 (f_X5_best_L9 n9) F G x1 x2 x3 x4 = some (rv, Fz, Gz) → W p l e (headSpec wsX5_best ({ frames := 6, cells := 0, slots := 0, locals := 150 } : Room)).room s m (List.toArray ([.ref (ad 99)] : List Value)) below meth c H locs 0 0 (MQ below (va_Qi (fun z (_ : Unit) => z = rv) (fun _ t => va_P D vwCl (mW cI cZ ad Fz Gz) t.heap) (mA cI cZ ad)) (List.toArray ([.ref (ad 99)] : List Value)) s 0 0 (mA cI cZ ad)) (F0 m 75 ls []) := by
        intro F G x1 x2 x3 x4 H locs hP hS ls hl h
        refine q_iinc (j := 4) (d := (1 : Int32)) (lv2 := fun v1 => [(4, .int (v1)), (0, .ref (ad 99)), (1, .int (x1)), (2, .int (x2)), (3, .int (x3))]) hx hb dX5_best_75 hl rfl (by decide) (by decide) (fun _ => rfl) h (fun v1 ls hl h => ?_)
        refine lv_goto (tgt := 9) hx hb dX5_best_78 (by decide) ?_
        exact ih9 F G x1 x2 x3 v1 _ _ hP hS _ (lv_sub hl [1, 2, 3, 4, 0] rfl) h
      have j62 : ∀ (F : Nat → Int32) (G : Nat → Nat → Int32) (x4 : Int32) (H : Heap) (locs : List Loc) , va_P D vwCl (mW cI cZ ad F G) H → va_S (mA cI cZ ad) s.heap H locs → ∀ ls : Array Slot, lv_has ls 5 [(0, .ref (ad 99)), (4, .int (x4))] → f_X5_best_B62 (f_X5_best_L9 n9) F G x4 = some (rv, Fz, Gz) → W p l e (headSpec wsX5_best ({ frames := 6, cells := 0, slots := 0, locals := 150 } : Room)).room s m (List.toArray ([.ref (ad 99)] : List Value)) below meth c H locs 0 0 (MQ below (va_Qi (fun z (_ : Unit) => z = rv) (fun _ t => va_P D vwCl (mW cI cZ ad Fz Gz) t.heap) (mA cI cZ ad)) (List.toArray ([.ref (ad 99)] : List Value)) s 0 0 (mA cI cZ ad)) (F0 m 62 ls []) := by
        intro F G x4 H locs hP hS ls hl h
        refine lv_iload hx hb dX5_best_62 (lv_at hl 1 rfl) ?_
        refine lv_istore_n (lv' := [(1, .int (x4)), (0, .ref (ad 99)), (4, .int (x4))]) hx hb dX5_best_64 rfl hl (by decide) rfl (fun ls hl => ?_)
        refine lv_aload_n hx hb dX5_best_65 rfl (lv_at hl 1 rfl) ?_
        refine va_get hx hb hts hi_X5_best_X5 hown hK hP 0 (m_o99 cI cZ ad F G) rfl 18 (by decide) (hts _ (List.mem_of_getElem? (i := 2) rfl)) (fun _ h9 => h9) rfl dX5_best_66 ?_
        refine q_nm h (fun v2 h => ?_)
        refine lv_istore_n (lv' := [(2, .int (v2)), (1, .int (x4)), (0, .ref (ad 99)), (4, .int (x4))]) hx hb dX5_best_69 rfl hl (by decide) rfl (fun ls hl => ?_)
        refine lv_aload_n hx hb dX5_best_70 rfl (lv_at hl 2 rfl) ?_
        refine va_get hx hb hts hi_X5_best_X5 hown hK hP 0 (m_o99 cI cZ ad F G) rfl 19 (by decide) (hts _ (List.mem_of_getElem? (i := 3) rfl)) (fun _ h9 => h9) rfl dX5_best_71 ?_
        refine q_nm h (fun v3 h => ?_)
        refine lv_istore_n (lv' := [(3, .int (v3)), (2, .int (v2)), (1, .int (x4)), (0, .ref (ad 99)), (4, .int (x4))]) hx hb dX5_best_74 rfl hl (by decide) rfl (fun ls hl => ?_)
        exact j75 F G x4 v2 v3 x4 _ _ hP hS _ (lv_sub hl [3, 2, 1, 0, 4] rfl) h
      intro F G x1 x2 x3 x4 H locs hP hS ls hl h
      replace h : f_X5_best_L9_b (f_X5_best_L9 n9) F G x1 x2 x3 x4 = some (rv, Fz, Gz) := h
      refine lv_iload hx hb dX5_best_9 (lv_at hl 4 rfl) ?_
      refine lv_iconst (v := 4) hx hb dX5_best_11 (by decide) ?_
      refine q_icmp_ge (tgt := 81) hx hb dX5_best_12 (by decide) h (fun h => ?_) (fun h => ?_)
      · refine lv_iload_n hx hb dX5_best_81 rfl (lv_at hl 1 rfl) ?_
        refine q_if_ge (tgt := 87) hx hb dX5_best_82 (by decide) h (fun h => ?_) (fun h => ?_)
        · refine lv_aload_n hx hb dX5_best_87 rfl (lv_at hl 0 rfl) ?_
          refine lv_iload_n hx hb dX5_best_88 rfl (lv_at hl 1 rfl) ?_
          obtain ⟨⟨F5, G6⟩, hc7, h⟩ := q_some h
          refine q_cv (va_runV (C := RX5) (As := [.int (x1)]) (rest := []) ⟨hx, hb, hml, hown, hts⟩ (mt_X5_tries l D cI cZ ad F G x1 F5 G6 hDD hc7) (cwV 1 hts gX5_best_X5_tries rfl rfl rfl (by decide +kernel) ⟨Nat.le_of_ble_eq_true rfl, Nat.le_of_ble_eq_true rfl⟩) ⟨mR_b, va_recv hK hP (ci := 5) (q0 := 0) rfl rfl, (mR_p hP hK hN).2⟩ rfl rfl hl.1 rfl (lv_room (Nat.le_of_ble_eq_true rfl)) dX5_best_89 ⟨Nat.le_of_ble_eq_true rfl, Nat.le_of_ble_eq_true rfl⟩) hS (fun H locs hP hS => ?_)
          refine lv_aload_n hx hb dX5_best_92 rfl (lv_at hl 0 rfl) ?_
          obtain ⟨⟨F9, G10⟩, hc11, h⟩ := q_some h
          refine q_cv (va_runV (C := RX5) (As := []) (rest := []) ⟨hx, hb, hml, hown, hts⟩ (mt_X5_keeps l D cI cZ ad F5 G6  F9 G10 hDD hc11) (cwV 0 hts gX5_best_X5_keeps rfl rfl rfl (by decide +kernel) ⟨Nat.le_of_ble_eq_true rfl, Nat.le_of_ble_eq_true rfl⟩) ⟨mR_b, va_recv hK hP (ci := 5) (q0 := 0) rfl rfl, (mR_p hP hK hN).2⟩ rfl rfl hl.1 rfl (lv_room (Nat.le_of_ble_eq_true rfl)) dX5_best_93 ⟨Nat.le_of_ble_eq_true rfl, Nat.le_of_ble_eq_true rfl⟩) hS (fun H locs hP hS => ?_)
          refine lv_iload_n hx hb dX5_best_96 rfl (lv_at hl 1 rfl) ?_
          have e1 := congrArg Prod.fst (Option.some.inj h)
          have e2 := congrArg (fun z => z.2.1) (Option.some.inj h)
          have e3 := congrArg (fun z => z.2.2) (Option.some.inj h)
          dsimp only at e1 e2 e3
          exact W.iret hx hb hr (fun t ht hW => ⟨⟨_, (), rfl, e1, by show va_P D vwCl _ t.heap; rw [ht, ← e2, ← e3]; exact hP⟩, hS.F ht⟩) hS.2.2 dX5_best_97
        · refine lv_iconst (v := -1) hx hb dX5_best_85 (by decide) ?_
          have e1 := congrArg Prod.fst (Option.some.inj h)
          have e2 := congrArg (fun z => z.2.1) (Option.some.inj h)
          have e3 := congrArg (fun z => z.2.2) (Option.some.inj h)
          dsimp only at e1 e2 e3
          exact W.iret hx hb hr (fun t ht hW => ⟨⟨_, (), rfl, e1, by show va_P D vwCl _ t.heap; rw [ht, ← e2, ← e3]; exact hP⟩, hS.F ht⟩) hS.2.2 dX5_best_86
      · refine lv_aload_n hx hb dX5_best_15 rfl (lv_at hl 0 rfl) ?_
        refine lv_iload hx hb dX5_best_16 (lv_at hl 4 rfl) ?_
        obtain ⟨⟨F13, G14⟩, hc15, h⟩ := q_some h
        refine q_cv (va_runV (C := RX5) (As := [.int (x4)]) (rest := []) ⟨hx, hb, hml, hown, hts⟩ (mt_X5_tries l D cI cZ ad F G x4 F13 G14 hDD hc15) (cwV 1 hts gX5_best_X5_tries rfl rfl rfl (by decide +kernel) ⟨Nat.le_of_ble_eq_true rfl, Nat.le_of_ble_eq_true rfl⟩) ⟨mR_b, va_recv hK hP (ci := 5) (q0 := 0) rfl rfl, (mR_p hP hK hN).2⟩ rfl rfl hl.1 rfl (lv_room (Nat.le_of_ble_eq_true rfl)) dX5_best_18 ⟨Nat.le_of_ble_eq_true rfl, Nat.le_of_ble_eq_true rfl⟩) hS (fun H locs hP hS => ?_)
        refine lv_aload_n hx hb dX5_best_21 rfl (lv_at hl 0 rfl) ?_
        refine va_get hx hb hts hi_X5_best_X5 hown hK hP 0 (m_o99 cI cZ ad F13 G14) rfl 16 (by decide) (hts _ (List.mem_of_getElem? (i := 1) rfl)) (fun _ h9 => h9) rfl dX5_best_22 ?_
        refine q_if_eq (tgt := 31) hx hb dX5_best_25 (by decide) h (fun h => ?_) (fun h => ?_)
        · refine lv_iload_n hx hb dX5_best_31 rfl (lv_at hl 1 rfl) ?_
          refine q_if_lt (tgt := 62) hx hb dX5_best_32 (by decide) h (fun h => ?_) (fun h => ?_)
          · exact j62 F13 G14 x4 _ _ hP hS _ (lv_sub hl [0, 4] rfl) h
          · refine lv_aload_n hx hb dX5_best_35 rfl (lv_at hl 0 rfl) ?_
            refine va_get hx hb hts hi_X5_best_X5 hown hK hP 0 (m_o99 cI cZ ad F13 G14) rfl 18 (by decide) (hts _ (List.mem_of_getElem? (i := 2) rfl)) (fun _ h9 => h9) rfl dX5_best_36 ?_
            refine lv_iload_n hx hb dX5_best_39 rfl (lv_at hl 2 rfl) ?_
            refine q_icmp_gt (tgt := 75) hx hb dX5_best_40 (by decide) h (fun h => ?_) (fun h => ?_)
            · exact j75 F13 G14 x1 x2 x3 x4 _ _ hP hS _ (lv_sub hl [0, 1, 2, 3, 4] rfl) h
            · refine lv_aload_n hx hb dX5_best_43 rfl (lv_at hl 0 rfl) ?_
              refine va_get hx hb hts hi_X5_best_X5 hown hK hP 0 (m_o99 cI cZ ad F13 G14) rfl 18 (by decide) (hts _ (List.mem_of_getElem? (i := 2) rfl)) (fun _ h9 => h9) rfl dX5_best_44 ?_
              refine lv_iload_n hx hb dX5_best_47 rfl (lv_at hl 2 rfl) ?_
              refine q_icmp_ne (tgt := 62) hx hb dX5_best_48 (by decide) h (fun h => ?_) (fun h => ?_)
              · exact j62 F13 G14 x4 _ _ hP hS _ (lv_sub hl [0, 4] rfl) h
              · refine lv_aload_n hx hb dX5_best_51 rfl (lv_at hl 0 rfl) ?_
                refine va_get hx hb hts hi_X5_best_X5 hown hK hP 0 (m_o99 cI cZ ad F13 G14) rfl 19 (by decide) (hts _ (List.mem_of_getElem? (i := 3) rfl)) (fun _ h9 => h9) rfl dX5_best_52 ?_
                refine lv_iload_n hx hb dX5_best_55 rfl (lv_at hl 3 rfl) ?_
                refine q_icmp_lt (tgt := 62) hx hb dX5_best_56 (by decide) h (fun h => ?_) (fun h => ?_)
                · exact j62 F13 G14 x4 _ _ hP hS _ (lv_sub hl [0, 4] rfl) h
                · refine lv_goto (tgt := 75) hx hb dX5_best_59 (by decide) ?_
                  exact j75 F13 G14 x1 x2 x3 x4 _ _ hP hS _ (lv_sub hl [0, 1, 2, 3, 4] rfl) h
        · refine lv_goto (tgt := 75) hx hb dX5_best_28 (by decide) ?_
          exact j75 F13 G14 x1 x2 x3 x4 _ _ hP hS _ (lv_sub hl [0, 1, 2, 3, 4] rfl) h
  refine lv_iconst (v := -1) hx hb dX5_best_0 (by decide) ?_
  refine q_nm h (fun v16 h => ?_)
  refine lv_istore_n (lv' := [(1, .int (v16)), (0, .ref (ad 99))]) hx hb dX5_best_1 rfl hl (by decide) rfl (fun ls hl => ?_)
  refine lv_iconst (v := 0) hx hb dX5_best_2 (by decide) ?_
  refine q_nm h (fun v17 h => ?_)
  refine lv_istore_n (lv' := [(2, .int (v17)), (1, .int (v16)), (0, .ref (ad 99))]) hx hb dX5_best_3 rfl hl (by decide) rfl (fun ls hl => ?_)
  refine lv_iconst (v := 0) hx hb dX5_best_4 (by decide) ?_
  refine q_nm h (fun v18 h => ?_)
  refine lv_istore_n (lv' := [(3, .int (v18)), (2, .int (v17)), (1, .int (v16)), (0, .ref (ad 99))]) hx hb dX5_best_5 rfl hl (by decide) rfl (fun ls hl => ?_)
  refine lv_iconst (v := 0) hx hb dX5_best_6 (by decide) ?_
  refine q_nm h (fun v19 h => ?_)
  refine lv_istore (lv' := [(4, .int (v19)), (3, .int (v18)), (2, .int (v17)), (1, .int (v16)), (0, .ref (ad 99))]) hx hb dX5_best_7 hl (by decide) rfl (fun ls hl => ?_)
  exact j9 1000 F G v16 v17 v18 v19 _ _ hP hS _ (lv_sub hl [4, 3, 2, 1, 0] rfl) h
