def sw (k : Nat) : Nat := if Nat.ble k 22 = true then k + 50 else if (Nat.ble 50 k && Nat.ble k 72) = true then k - 50 else k
def swF {α : Type} (F : Nat → α) : Nat → α := fun k => F (sw k)
/-- the trial's values, as a way's own, back among the others -/
def mtr {α : Type} (F Fa : Nat → α) : Nat → α := fun k => if k_ch k = true then Fa k else if (Nat.ble 50 k && Nat.ble k 72) = true then Fa (k - 50) else F k
def qt {β : Type} (F : Nat → Int32) (G : Nat → Nat → Int32) (Fa : Nat → Int32) (Ga : Nat → Nat → Int32) (k : (Nat → Int32) → (Nat → Nat → Int32) → Option β) : Option β := k (mtr F Fa) (mtr G Ga)
theorem bd_sw_D {cI : ClassId} {ad : Nat → Nat} (h : va_D (fun _ => True) (bdW cI ad (fun _ => 0) (fun _ _ => 0))) : va_D (fun _ => True) (bdW cI (swF ad) (fun _ => 0) (fun _ _ => 0)) := by
  have h1 : va_D (fun _ => True) ([(ad 90, .inr (4, [.ref (ad 38), .ref (ad 41), .ref (ad 22), .ref (ad 72)])), (ad 38, .inr (0, [.ref (ad 30), .ref (ad 31), .ref (ad 32), .ref (ad 33), .int ((fun _ => 0) 34), .int ((fun _ => 0) 35), .int ((fun _ => 0) 36), .int ((fun _ => 0) 37)])), (ad 30, .inl (cI, 144, .inl ((fun _ _ => 0) 30))), (ad 31, .inl (cI, 6, .inl ((fun _ _ => 0) 31))), (ad 32, .inl (cI, 6, .inl ((fun _ _ => 0) 32))), (ad 33, .inl (cI, 6, .inl ((fun _ _ => 0) 33))), (ad 41, .inr (1, [.ref (ad 40)])), (ad 40, .inl (cI, 144, .inl ((fun _ _ => 0) 40))), (ad 72, .inr (3, [.ref (ad 50), .ref (ad 51), .ref (ad 52), .ref (ad 53), .ref (ad 54), .ref (ad 55), .ref (ad 56), .ref (ad 57), .ref (ad 58), .ref (ad 59), .int ((fun _ => 0) 60), .int ((fun _ => 0) 61), .int ((fun _ => 0) 62), .int ((fun _ => 0) 63), .int ((fun _ => 0) 64), .int ((fun _ => 0) 65), .int ((fun _ => 0) 66), .int ((fun _ => 0) 67), .int ((fun _ => 0) 68)])), (ad 50, .inl (cI, 144, .inl ((fun _ _ => 0) 50))), (ad 51, .inl (cI, 144, .inl ((fun _ _ => 0) 51))), (ad 52, .inl (cI, 144, .inl ((fun _ _ => 0) 52))), (ad 53, .inl (cI, 144, .inl ((fun _ _ => 0) 53))), (ad 54, .inl (cI, 144, .inl ((fun _ _ => 0) 54))), (ad 55, .inl (cI, 144, .inl ((fun _ _ => 0) 55))), (ad 56, .inl (cI, 144, .inl ((fun _ _ => 0) 56))), (ad 57, .inl (cI, 864, .inl ((fun _ _ => 0) 57))), (ad 58, .inl (cI, 6, .inl ((fun _ _ => 0) 58))), (ad 59, .inr (2, [.ref (ad 70), .int ((fun _ => 0) 71)])), (ad 70, .inl (cI, 4, .inl ((fun _ _ => 0) 70))), (ad 22, .inr (3, [.ref (ad 0), .ref (ad 1), .ref (ad 2), .ref (ad 3), .ref (ad 4), .ref (ad 5), .ref (ad 6), .ref (ad 7), .ref (ad 8), .ref (ad 9), .int ((fun _ => 0) 10), .int ((fun _ => 0) 11), .int ((fun _ => 0) 12), .int ((fun _ => 0) 13), .int ((fun _ => 0) 14), .int ((fun _ => 0) 15), .int ((fun _ => 0) 16), .int ((fun _ => 0) 17), .int ((fun _ => 0) 18)])), (ad 0, .inl (cI, 144, .inl ((fun _ _ => 0) 0))), (ad 1, .inl (cI, 144, .inl ((fun _ _ => 0) 1))), (ad 2, .inl (cI, 144, .inl ((fun _ _ => 0) 2))), (ad 3, .inl (cI, 144, .inl ((fun _ _ => 0) 3))), (ad 4, .inl (cI, 144, .inl ((fun _ _ => 0) 4))), (ad 5, .inl (cI, 144, .inl ((fun _ _ => 0) 5))), (ad 6, .inl (cI, 144, .inl ((fun _ _ => 0) 6))), (ad 7, .inl (cI, 864, .inl ((fun _ _ => 0) 7))), (ad 8, .inl (cI, 6, .inl ((fun _ _ => 0) 8))), (ad 9, .inr (2, [.ref (ad 20), .int ((fun _ => 0) 21)])), (ad 20, .inl (cI, 4, .inl ((fun _ _ => 0) 20)))] : va_W) := h.sub [0, 1, 2, 3, 4, 5, 6, 7, 20, 21, 22, 23, 24, 25, 26, 27, 28, 29, 30, 31, 8, 9, 10, 11, 12, 13, 14, 15, 16, 17, 18, 19] (by decide) rfl
  exact (qD h1 (w2 := bdW cI (swF ad) (fun _ => 0) (fun _ _ => 0)) rfl).weaken (B := fun _ => True) (fun _ _ _ _ => trivial)
theorem bd_sw_A {cI : ClassId} {ad : Nat → Nat} : ∀ q, bdA cI (swF ad) q → bdA cI ad q := fun q h => by
  obtain ⟨k, x, h⟩ := h
  obtain ⟨y, hy⟩ := q_in (w1 := bdW cI (swF ad) (fun _ => 0) (fun _ _ => 0)) (w2 := ([(ad 90, .inr (4, [.ref (ad 38), .ref (ad 41), .ref (ad 22), .ref (ad 72)])), (ad 38, .inr (0, [.ref (ad 30), .ref (ad 31), .ref (ad 32), .ref (ad 33), .int ((fun _ => 0) 34), .int ((fun _ => 0) 35), .int ((fun _ => 0) 36), .int ((fun _ => 0) 37)])), (ad 30, .inl (cI, 144, .inl ((fun _ _ => 0) 30))), (ad 31, .inl (cI, 6, .inl ((fun _ _ => 0) 31))), (ad 32, .inl (cI, 6, .inl ((fun _ _ => 0) 32))), (ad 33, .inl (cI, 6, .inl ((fun _ _ => 0) 33))), (ad 41, .inr (1, [.ref (ad 40)])), (ad 40, .inl (cI, 144, .inl ((fun _ _ => 0) 40))), (ad 72, .inr (3, [.ref (ad 50), .ref (ad 51), .ref (ad 52), .ref (ad 53), .ref (ad 54), .ref (ad 55), .ref (ad 56), .ref (ad 57), .ref (ad 58), .ref (ad 59), .int ((fun _ => 0) 60), .int ((fun _ => 0) 61), .int ((fun _ => 0) 62), .int ((fun _ => 0) 63), .int ((fun _ => 0) 64), .int ((fun _ => 0) 65), .int ((fun _ => 0) 66), .int ((fun _ => 0) 67), .int ((fun _ => 0) 68)])), (ad 50, .inl (cI, 144, .inl ((fun _ _ => 0) 50))), (ad 51, .inl (cI, 144, .inl ((fun _ _ => 0) 51))), (ad 52, .inl (cI, 144, .inl ((fun _ _ => 0) 52))), (ad 53, .inl (cI, 144, .inl ((fun _ _ => 0) 53))), (ad 54, .inl (cI, 144, .inl ((fun _ _ => 0) 54))), (ad 55, .inl (cI, 144, .inl ((fun _ _ => 0) 55))), (ad 56, .inl (cI, 144, .inl ((fun _ _ => 0) 56))), (ad 57, .inl (cI, 864, .inl ((fun _ _ => 0) 57))), (ad 58, .inl (cI, 6, .inl ((fun _ _ => 0) 58))), (ad 59, .inr (2, [.ref (ad 70), .int ((fun _ => 0) 71)])), (ad 70, .inl (cI, 4, .inl ((fun _ _ => 0) 70))), (ad 22, .inr (3, [.ref (ad 0), .ref (ad 1), .ref (ad 2), .ref (ad 3), .ref (ad 4), .ref (ad 5), .ref (ad 6), .ref (ad 7), .ref (ad 8), .ref (ad 9), .int ((fun _ => 0) 10), .int ((fun _ => 0) 11), .int ((fun _ => 0) 12), .int ((fun _ => 0) 13), .int ((fun _ => 0) 14), .int ((fun _ => 0) 15), .int ((fun _ => 0) 16), .int ((fun _ => 0) 17), .int ((fun _ => 0) 18)])), (ad 0, .inl (cI, 144, .inl ((fun _ _ => 0) 0))), (ad 1, .inl (cI, 144, .inl ((fun _ _ => 0) 1))), (ad 2, .inl (cI, 144, .inl ((fun _ _ => 0) 2))), (ad 3, .inl (cI, 144, .inl ((fun _ _ => 0) 3))), (ad 4, .inl (cI, 144, .inl ((fun _ _ => 0) 4))), (ad 5, .inl (cI, 144, .inl ((fun _ _ => 0) 5))), (ad 6, .inl (cI, 144, .inl ((fun _ _ => 0) 6))), (ad 7, .inl (cI, 864, .inl ((fun _ _ => 0) 7))), (ad 8, .inl (cI, 6, .inl ((fun _ _ => 0) 8))), (ad 9, .inr (2, [.ref (ad 20), .int ((fun _ => 0) 21)])), (ad 20, .inl (cI, 4, .inl ((fun _ _ => 0) 20)))] : va_W)) rfl h
  exact q_part (wb := bdW cI ad (fun _ => 0) (fun _ _ => 0)) (ws := ([(ad 90, .inr (4, [.ref (ad 38), .ref (ad 41), .ref (ad 22), .ref (ad 72)])), (ad 38, .inr (0, [.ref (ad 30), .ref (ad 31), .ref (ad 32), .ref (ad 33), .int ((fun _ => 0) 34), .int ((fun _ => 0) 35), .int ((fun _ => 0) 36), .int ((fun _ => 0) 37)])), (ad 30, .inl (cI, 144, .inl ((fun _ _ => 0) 30))), (ad 31, .inl (cI, 6, .inl ((fun _ _ => 0) 31))), (ad 32, .inl (cI, 6, .inl ((fun _ _ => 0) 32))), (ad 33, .inl (cI, 6, .inl ((fun _ _ => 0) 33))), (ad 41, .inr (1, [.ref (ad 40)])), (ad 40, .inl (cI, 144, .inl ((fun _ _ => 0) 40))), (ad 72, .inr (3, [.ref (ad 50), .ref (ad 51), .ref (ad 52), .ref (ad 53), .ref (ad 54), .ref (ad 55), .ref (ad 56), .ref (ad 57), .ref (ad 58), .ref (ad 59), .int ((fun _ => 0) 60), .int ((fun _ => 0) 61), .int ((fun _ => 0) 62), .int ((fun _ => 0) 63), .int ((fun _ => 0) 64), .int ((fun _ => 0) 65), .int ((fun _ => 0) 66), .int ((fun _ => 0) 67), .int ((fun _ => 0) 68)])), (ad 50, .inl (cI, 144, .inl ((fun _ _ => 0) 50))), (ad 51, .inl (cI, 144, .inl ((fun _ _ => 0) 51))), (ad 52, .inl (cI, 144, .inl ((fun _ _ => 0) 52))), (ad 53, .inl (cI, 144, .inl ((fun _ _ => 0) 53))), (ad 54, .inl (cI, 144, .inl ((fun _ _ => 0) 54))), (ad 55, .inl (cI, 144, .inl ((fun _ _ => 0) 55))), (ad 56, .inl (cI, 144, .inl ((fun _ _ => 0) 56))), (ad 57, .inl (cI, 864, .inl ((fun _ _ => 0) 57))), (ad 58, .inl (cI, 6, .inl ((fun _ _ => 0) 58))), (ad 59, .inr (2, [.ref (ad 70), .int ((fun _ => 0) 71)])), (ad 70, .inl (cI, 4, .inl ((fun _ _ => 0) 70))), (ad 22, .inr (3, [.ref (ad 0), .ref (ad 1), .ref (ad 2), .ref (ad 3), .ref (ad 4), .ref (ad 5), .ref (ad 6), .ref (ad 7), .ref (ad 8), .ref (ad 9), .int ((fun _ => 0) 10), .int ((fun _ => 0) 11), .int ((fun _ => 0) 12), .int ((fun _ => 0) 13), .int ((fun _ => 0) 14), .int ((fun _ => 0) 15), .int ((fun _ => 0) 16), .int ((fun _ => 0) 17), .int ((fun _ => 0) 18)])), (ad 0, .inl (cI, 144, .inl ((fun _ _ => 0) 0))), (ad 1, .inl (cI, 144, .inl ((fun _ _ => 0) 1))), (ad 2, .inl (cI, 144, .inl ((fun _ _ => 0) 2))), (ad 3, .inl (cI, 144, .inl ((fun _ _ => 0) 3))), (ad 4, .inl (cI, 144, .inl ((fun _ _ => 0) 4))), (ad 5, .inl (cI, 144, .inl ((fun _ _ => 0) 5))), (ad 6, .inl (cI, 144, .inl ((fun _ _ => 0) 6))), (ad 7, .inl (cI, 864, .inl ((fun _ _ => 0) 7))), (ad 8, .inl (cI, 6, .inl ((fun _ _ => 0) 8))), (ad 9, .inr (2, [.ref (ad 20), .int ((fun _ => 0) 21)])), (ad 20, .inl (cI, 4, .inl ((fun _ _ => 0) 20)))] : va_W)) [0, 1, 2, 3, 4, 5, 6, 7, 20, 21, 22, 23, 24, 25, 26, 27, 28, 29, 30, 31, 8, 9, 10, 11, 12, 13, 14, 15, 16, 17, 18, 19] rfl ⟨k, y, hy⟩
theorem bd_kwt {D : va_G} {cI : ClassId} {ad : Nat → Nat} {F : Nat → Int32} {G : Nat → Nat → Int32} {H : Heap} (h : va_P D vwCl (bdW cI ad F G) H) : va_P D vwCl (kwW cI (swF ad) (swF F) (swF G)) H := h.sub [20, 21, 22, 23, 24, 25, 26, 27, 28, 29, 30, 31, 1, 2, 3, 4, 5] rfl
theorem bd_kwt_back {D : va_G} {cI : ClassId} {ad : Nat → Nat} {F Fa : Nat → Int32} {G Ga : Nat → Nat → Int32} {H H1 : Heap} (hDD : va_D (fun _ => True) (bdW cI ad (fun _ => 0) (fun _ _ => 0))) (hP : va_P D vwCl (bdW cI ad F G) H) (hk : ∀ q : Nat, q < H.size → ¬ kwA cI (swF ad) q → H1[q]? = H[q]?) (h1 : va_P D vwCl (kwW cI (swF ad) Fa Ga) H1) : va_P D vwCl (bdW cI ad (mtr F Fa) (mtr G Ga)) H1 := by
  have hD : va_D (fun _ => True) (bdW cI ad F G) := (bdW_D hDD F G).weaken (fun _ _ _ _ => trivial)
  have hDs : va_D (fun _ => True) (kwW cI (swF ad) (fun _ => 0) (fun _ _ => 0)) := bd_kw_D (bd_sw_D hDD)
  have hin : ∀ q, kwA cI (swF ad) q → va_A (kwW cI (swF ad) (swF F) (swF G)) H.size q := fun q h => by
    obtain ⟨k, x, h⟩ := h
    obtain ⟨y, hy⟩ := q_in (w1 := kwW cI (swF ad) (fun _ => 0) (fun _ _ => 0)) (w2 := kwW cI (swF ad) (swF F) (swF G)) rfl h
    exact Or.inl ⟨k, y, hy⟩
  have hD1 : va_D (va_A (kwW cI (swF ad) (swF F) (swF G)) H.size) (kwW cI (swF ad) Fa Ga) := (kwW_D hDs Fa Ga).weaken (fun _ q _ h => hin q.1 h)
  obtain ⟨h, -⟩ := va_join (wc := kwW cI (swF ad) (swF F) (swF G)) (wr := [(ad 90, .inr (4, [.ref (ad 38), .ref (ad 41), .ref (ad 22), .ref (ad 72)])), (ad 41, .inr (1, [.ref (ad 40)])), (ad 40, .inl (cI, 144, .inl (G 40))), (ad 22, .inr (3, [.ref (ad 0), .ref (ad 1), .ref (ad 2), .ref (ad 3), .ref (ad 4), .ref (ad 5), .ref (ad 6), .ref (ad 7), .ref (ad 8), .ref (ad 9), .int (F 10), .int (F 11), .int (F 12), .int (F 13), .int (F 14), .int (F 15), .int (F 16), .int (F 17), .int (F 18)])), (ad 0, .inl (cI, 144, .inl (G 0))), (ad 1, .inl (cI, 144, .inl (G 1))), (ad 2, .inl (cI, 144, .inl (G 2))), (ad 3, .inl (cI, 144, .inl (G 3))), (ad 4, .inl (cI, 144, .inl (G 4))), (ad 5, .inl (cI, 144, .inl (G 5))), (ad 6, .inl (cI, 144, .inl (G 6))), (ad 7, .inl (cI, 864, .inl (G 7))), (ad 8, .inl (cI, 6, .inl (G 8))), (ad 9, .inr (2, [.ref (ad 20), .int (F 21)])), (ad 20, .inl (cI, 4, .inl (G 20)))]) (w1 := kwW cI (swF ad) Fa Ga) hP hD [20, 21, 22, 23, 24, 25, 26, 27, 28, 29, 30, 31, 1, 2, 3, 4, 5] [0, 6, 7, 8, 9, 10, 11, 12, 13, 14, 15, 16, 17, 18, 19] rfl rfl (by decide) (by decide) (fun q q1 q2 => hk q q1 (fun z => q2 (hin q z))) (fun _ _ => trivial) h1 hD1
  exact h.sub [0, 27, 28, 29, 30, 31, 1, 2, 3, 4, 5, 6, 7, 8, 9, 10, 11, 12, 13, 14, 15, 16, 17, 18, 19, 20, 21, 22, 23, 24, 25, 26] rfl
/-- other addresses of the same cells -/
def adOK (cI : ClassId) (ad u : Nat → Nat) : Prop := u 90 = ad 90 ∧ va_D (fun _ => True) (bdW cI u (fun _ => 0) (fun _ _ => 0)) ∧ ∀ q, bdA cI u q → bdA cI ad q
theorem adOK_sw {cI : ClassId} {ad u : Nat → Nat} (h : adOK cI ad u) : adOK cI ad (swF u) := ⟨h.1, bd_sw_D h.2.1, fun q hq => h.2.2 q (bd_sw_A q hq)⟩
theorem hi_X4_tellTrial_X4 : ∀ w ∈ u_ws RX4 TX4 4, w ∈ wsX4_tellTrial := fun w h => (List.mem_cons_of_mem _ (List.mem_append_right _ h))
set_option maxHeartbeats 4000000 in
set_option maxRecDepth 100000 in
theorem mt_X4_tellTrial (l : Launch) (D : va_G) (cI : ClassId) (ad : Nat → Nat) (F : Nat → Int32) (G : Nat → Nat → Int32) (hDD : va_D (fun _ => True) (bdW cI ad (fun _ => 0) (fun _ _ => 0))) : Met l yX4_tellTrial wsX4_tellTrial ({ frames := 0, cells := 0, slots := 0, locals := 0 } : Room) (va_Pc [.ref (ad 90)] (bdR D cI ad F G)) (va_Qv (fun (_ : Unit) => True) (fun _ t => va_P D vwCl (bdW cI (swF ad) (swF F) (swF G)) t.heap) (bdA cI ad)) 0 0 (bdA cI ad) := by
  refine Met.ofW (cc := cX4_tellTrial) (maxL := 2) (ret := none) (by decide) rfl ?_
  intro p e s m args below meth c s₁ B hml hv
  obtain ⟨rfl, hP, hK, hN⟩ := hv
  have hx := B.exec
  have hb := B.bytes
  have hr := B.returns
  have hts := atoms_spec (ws := wsX4_tellTrial) B.pre
  have hown : s.vm.findClass RX4 = some m.cls := findClass_of_methodNamed B.named
  have hlocks := B.notSynchronized
  have hS : va_S (bdA cI ad) s.heap s.heap [] := va_S.rf
  have hl := lv_entry ([.ref (ad 90)]) (n := 2) (Nat.le_of_ble_eq_true rfl)
  rw [lg_entry_eq]
  generalize (lg_sl ([.ref (ad 90)]) ++ List.replicate (2 - (lg_sl ([.ref (ad 90)])).length) Slot.unset).toArray = ls at hl ⊢
  have hl : lv_has ls 2 [(0, .ref (ad 90))] := hl
  refine lv_aload_n hx hb dX4_tellTrial_0 rfl (lv_at hl 0 rfl) ?_
  refine va_get hx hb hts hi_X4_tellTrial_X4 hown hK hP 0 (bd_o90 cI ad F G) rfl 2 (by decide) (hts _ (List.mem_of_getElem? (i := 1) rfl)) (fun _ h9 => h9) rfl dX4_tellTrial_1 ?_
  refine lv_astore_n (lv' := [(1, .ref (ad 22)), (0, .ref (ad 90))]) hx hb dX4_tellTrial_4 rfl hl (by decide) rfl (fun ls hl => ?_)
  refine lv_aload_n hx hb dX4_tellTrial_5 rfl (lv_at hl 1 rfl) ?_
  refine lv_aload_n hx hb dX4_tellTrial_6 rfl (lv_at hl 1 rfl) ?_
  refine va_get hx hb hts hi_X4_tellTrial_X4 hown hK hP 0 (bd_o90 cI ad F G) rfl 3 (by decide) (hts _ (List.mem_of_getElem? (i := 2) rfl)) (fun _ h9 => h9) rfl dX4_tellTrial_7 ?_
  refine va_put (ty := .object "BeadDesk$Way") hx hb hts hi_X4_tellTrial_X4 tyX4 tyX4_ok nmX4 hown hK hP (bdW_D hDD F G) hS 0 (bd_o90 cI ad F G) rfl 2 (by decide) (hts _ (List.mem_of_getElem? (i := 1) rfl)) (fun _ h9 => h9) rfl (by decide +kernel) rfl rfl (Nat.le_of_ble_eq_true rfl) dX4_tellTrial_10 (fun H locs hP hD hS => ?_)
  have hP : va_P D vwCl ((bdW cI ad F G).set 0 (ad 90, .inr (4, [.ref (ad 38), .ref (ad 41), .ref (ad 72), .ref (ad 72)]))) H := hP
  have hD : va_D (bdA cI ad) ((bdW cI ad F G).set 0 (ad 90, .inr (4, [.ref (ad 38), .ref (ad 41), .ref (ad 72), .ref (ad 72)]))) := hD
  refine lv_aload_n hx hb dX4_tellTrial_13 rfl (lv_at hl 1 rfl) ?_
  refine lv_aload_n hx hb dX4_tellTrial_14 rfl (lv_at hl 0 rfl) ?_
  refine va_put (ty := .object "BeadDesk$Way") (fs := [.ref (ad 38), .ref (ad 41), .ref (ad 72), .ref (ad 72)]) hx hb hts hi_X4_tellTrial_X4 tyX4 tyX4_ok nmX4 hown hK hP hD hS 0 rfl rfl 3 (by decide) (hts _ (List.mem_of_getElem? (i := 2) rfl)) (fun _ h9 => h9) rfl (by decide +kernel) rfl rfl (Nat.le_of_ble_eq_true rfl) dX4_tellTrial_15 (fun H locs hP hD hS => ?_)
  have hP : va_P D vwCl ((bdW cI ad F G).set 0 (ad 90, .inr (4, [.ref (ad 38), .ref (ad 41), .ref (ad 72), .ref (ad 22)]))) H := hP
  have hP : va_P D vwCl (bdW cI (swF ad) (swF F) (swF G)) H := hP.sub [0, 1, 2, 3, 4, 5, 6, 7, 20, 21, 22, 23, 24, 25, 26, 27, 28, 29, 30, 31, 8, 9, 10, 11, 12, 13, 14, 15, 16, 17, 18, 19] rfl
  exact W.vret hx hb hr (fun t ht hW => ⟨⟨(), rfl, trivial, by show va_P D vwCl _ t.heap; rw [ht]; exact hP⟩, hS.F ht⟩) hS.2.2 dX4_tellTrial_18
def f_X4_best_B56 (rec4 : (Nat → Int32) → (Nat → Nat → Int32) → Int32 → Int32 → Option (Int32 × qS)) (F : Nat → Int32) (G : Nat → Nat → Int32) (x1 x2 : Int32) : Option (Int32 × qS) :=
  qn (x2 + (1 : Int32)) fun v1 => rec4 F G x1 v1
def f_X4_best_B50 (rec4 : (Nat → Int32) → (Nat → Nat → Int32) → Int32 → Int32 → Option (Int32 × qS)) (F : Nat → Int32) (G : Nat → Nat → Int32) (x2 : Int32) : Option (Int32 × qS) := f_X4_best_B56 rec4 (swF F) (swF G) x2 x2
def f_X4_best_L4_b (rec4 : (Nat → Int32) → (Nat → Nat → Int32) → Int32 → Int32 → Option (Int32 × qS)) (F : Nat → Int32) (G : Nat → Nat → Int32) (x1 x2 : Int32) : Option (Int32 × qS) :=
  if (4 : Int32) ≤ x2 then some (x1, F, G)
  else
    qc (f_X3_follow (swF F) (swF G) x2) fun (Fa, Ga) =>
    qt F G Fa Ga fun F1 G1 =>
    if (F1 62) = 0 then
      if x1 = (-1 : Int32) then f_X4_best_B50 rec4 F1 G1 x2
      else
        qc (f_X3_isCheaperThan F1 G1) fun v1 =>
        if v1 = 0 then f_X4_best_B56 rec4 F1 G1 x1 x2
        else f_X4_best_B50 rec4 F1 G1 x2
    else f_X4_best_B56 rec4 F1 G1 x1 x2
def f_X4_best_L4 : Nat → (Nat → Int32) → (Nat → Nat → Int32) → Int32 → Int32 → Option (Int32 × qS)
  | 0, _, _, _, _ => none
  | n + 1, F, G, x1, x2 => f_X4_best_L4_b (f_X4_best_L4 n) F G x1 x2
def f_X4_best (F : Nat → Int32) (G : Nat → Nat → Int32) : Option (Int32 × qS) := f_X4_best_L4 1000 F G (-1 : Int32) (0 : Int32)
theorem hi_X4_best_X4 : ∀ w ∈ u_ws RX4 TX4 4, w ∈ wsX4_best := fun w h => (List.mem_cons_of_mem _ (List.mem_append_left _ (List.mem_append_left _ (List.mem_append_left _ (List.mem_append_right _ h)))))
theorem hi_X4_best_X3 : ∀ w ∈ u_ws RX3 TX3 19, w ∈ wsX4_best := fun w h => (List.mem_cons_of_mem _ (List.mem_append_left _ (List.mem_append_left _ (List.mem_append_right _ h))))
set_option maxHeartbeats 4000000 in
set_option maxRecDepth 100000 in
theorem mt_X4_best (l : Launch) (D : va_G) (cI : ClassId) (ad : Nat → Nat) (F : Nat → Int32) (G : Nat → Nat → Int32) (rv : Int32) (Fz : Nat → Int32) (Gz : Nat → Nat → Int32) (hDD : va_D (fun _ => True) (bdW cI ad (fun _ => 0) (fun _ _ => 0))) (h : f_X4_best F G = some (rv, Fz, Gz)) : Met l yX4_best wsX4_best ({ frames := 6, cells := 0, slots := 0, locals := 155 } : Room) (va_Pc [.ref (ad 90)] (bdR D cI ad F G)) (va_Qi (fun z (u : Nat → Nat) => z = rv ∧ adOK cI ad u) (fun u t => va_P D vwCl (bdW cI u Fz Gz) t.heap) (bdA cI ad)) 0 0 (bdA cI ad) := by
  refine Met.ofW (cc := cX4_best) (maxL := 3) (ret := (some .int)) (by decide) rfl ?_
  intro p e s m args below meth c s₁ B hml hv
  obtain ⟨rfl, hP, hK, hN⟩ := hv
  have hx := B.exec
  have hb := B.bytes
  have hr := B.returns
  have hts := atoms_spec (ws := wsX4_best) B.pre
  have hown : s.vm.findClass RX4 = some m.cls := findClass_of_methodNamed B.named
  have hlocks := B.notSynchronized
  have hS : va_S (bdA cI ad) s.heap s.heap [] := va_S.rf
  have hl := lv_entry ([.ref (ad 90)]) (n := 3) (Nat.le_of_ble_eq_true rfl)
  rw [lg_entry_eq]
  generalize (lg_sl ([.ref (ad 90)]) ++ List.replicate (3 - (lg_sl ([.ref (ad 90)])).length) Slot.unset).toArray = ls at hl ⊢
  have hl : lv_has ls 3 [(0, .ref (ad 90))] := hl
  have j4 : ∀ n4 : Nat, ∀ (u : Nat → Nat) (F : Nat → Int32) (G : Nat → Nat → Int32) (x1 x2 : Int32) (H : Heap) (locs : List Loc), adOK cI ad u → va_P D vwCl (bdW cI u F G) H → va_S (bdA cI ad) s.heap H locs → ∀ ls : Array Slot, lv_has ls 3 [(0, .ref (u 90)), (1, .int x1), (2, .int x2)] → f_X4_best_L4 n4 F G x1 x2 = some (rv, Fz, Gz) → W p l e (headSpec wsX4_best ({ frames := 6, cells := 0, slots := 0, locals := 155 } : Room)).room s m (List.toArray ([.ref (ad 90)] : List Value)) below meth c H locs 0 0 (MQ below (va_Qi (fun z (u : Nat → Nat) => z = rv ∧ adOK cI ad u) (fun u t => va_P D vwCl (bdW cI u Fz Gz) t.heap) (bdA cI ad)) (List.toArray ([.ref (ad 90)] : List Value)) s 0 0 (bdA cI ad)) (F0 m 4 ls []) := by
    intro n4
    induction n4 with
    | zero =>
      intro u F G x1 x2 H locs ok hP hS ls hl h
      cases h
    | succ n4 ih4 =>
      have j56 : ∀ (u : Nat → Nat) (F : Nat → Int32) (G : Nat → Nat → Int32) (x1 x2 : Int32) (H : Heap) (locs : List Loc), adOK cI ad u → va_P D vwCl (bdW cI u F G) H → va_S (bdA cI ad) s.heap H locs → ∀ ls : Array Slot, lv_has ls 3 [(0, .ref (u 90)), (1, .int x1), (2, .int x2)] → f_X4_best_B56 (f_X4_best_L4 n4) F G x1 x2 = some (rv, Fz, Gz) → W p l e (headSpec wsX4_best ({ frames := 6, cells := 0, slots := 0, locals := 155 } : Room)).room s m (List.toArray ([.ref (ad 90)] : List Value)) below meth c H locs 0 0 (MQ below (va_Qi (fun z (u : Nat → Nat) => z = rv ∧ adOK cI ad u) (fun u t => va_P D vwCl (bdW cI u Fz Gz) t.heap) (bdA cI ad)) (List.toArray ([.ref (ad 90)] : List Value)) s 0 0 (bdA cI ad)) (F0 m 56 ls []) := by
        intro u F G x1 x2 H locs ok hP hS ls hl h
        refine q_iinc (j := 2) (d := (1 : Int32)) (lv2 := fun v1 => [(2, .int v1), (0, .ref (u 90)), (1, .int x1)]) hx hb dX4_best_56 hl rfl (by decide) (by decide) (fun _ => rfl) h (fun v1 ls hl h => ?_)
        refine lv_goto (tgt := 4) hx hb dX4_best_59 (by decide) ?_
        exact ih4 u F G x1 v1 _ _ ok hP hS _ (lv_sub hl [1, 2, 0] rfl) h
      have j50 : ∀ (u : Nat → Nat) (F : Nat → Int32) (G : Nat → Nat → Int32) (x1 x2 : Int32) (H : Heap) (locs : List Loc), adOK cI ad u → va_P D vwCl (bdW cI u F G) H → va_S (bdA cI ad) s.heap H locs → ∀ ls : Array Slot, lv_has ls 3 [(0, .ref (u 90)), (1, .int x1), (2, .int x2)] → f_X4_best_B50 (f_X4_best_L4 n4) F G x2 = some (rv, Fz, Gz) → W p l e (headSpec wsX4_best ({ frames := 6, cells := 0, slots := 0, locals := 155 } : Room)).room s m (List.toArray ([.ref (ad 90)] : List Value)) below meth c H locs 0 0 (MQ below (va_Qi (fun z (u : Nat → Nat) => z = rv ∧ adOK cI ad u) (fun u t => va_P D vwCl (bdW cI u Fz Gz) t.heap) (bdA cI ad)) (List.toArray ([.ref (ad 90)] : List Value)) s 0 0 (bdA cI ad)) (F0 m 50 ls []) := by
        intro u F G x1 x2 H locs ok hP hS ls hl h
        refine lv_iload_n hx hb dX4_best_50 rfl (lv_at hl 2 rfl) ?_
        refine lv_istore_n (lv' := [(1, .int x2), (0, .ref (u 90)), (2, .int x2)]) hx hb dX4_best_51 rfl hl (by decide) rfl (fun ls hl => ?_)
        refine lv_aload_n hx hb dX4_best_52 rfl (lv_at hl 1 rfl) ?_
        refine va_callv (va_runV (C := RX4) (As := []) (rest := []) ⟨hx, hb, hml, hown, hts⟩ (mt_X4_tellTrial l D cI u F G ok.2.1) (cwV 0 hts gX4_best_X4_tellTrial rfl rfl rfl (by decide +kernel) ⟨Nat.le_of_ble_eq_true rfl, Nat.le_of_ble_eq_true rfl⟩) ⟨bdR_b, va_recv hK hP (ci := 4) (q0 := 0) rfl rfl, (bdR_p hP hK hN).2⟩ rfl rfl hl.1 rfl (lv_room (Nat.le_of_ble_eq_true rfl)) dX4_best_53 ⟨Nat.le_of_ble_eq_true rfl, Nat.le_of_ble_eq_true rfl⟩) hS (fun q _ z => ok.2.2 q z) ok.2.2 (fun z t H locs ht _ _ hB _ _ hS => ?_)
        subst ht
        exact j56 (swF u) (swF F) (swF G) x2 x2 _ _ (adOK_sw ok) hB hS _ (lv_sub hl [1, 0, 2] rfl) h
      intro u F G x1 x2 H locs ok hP hS ls hl h
      replace h : f_X4_best_L4_b (f_X4_best_L4 n4) F G x1 x2 = some (rv, Fz, Gz) := h
      refine lv_iload_n hx hb dX4_best_4 rfl (lv_at hl 2 rfl) ?_
      refine lv_iconst (v := 4) hx hb dX4_best_5 (by decide) ?_
      refine q_icmp_ge (tgt := 62) hx hb dX4_best_6 (by decide) h (fun h => ?_) (fun h => ?_)
      · refine lv_iload_n hx hb dX4_best_62 rfl (lv_at hl 1 rfl) ?_
        have e1 := congrArg Prod.fst (Option.some.inj h)
        have e2 := congrArg (fun z => z.2.1) (Option.some.inj h)
        have e3 := congrArg (fun z => z.2.2) (Option.some.inj h)
        dsimp only at e1 e2 e3
        exact W.iret hx hb hr (fun t ht hW => ⟨⟨_, u, rfl, ⟨e1, ok⟩, by show va_P D vwCl _ t.heap; rw [ht, ← e2, ← e3]; exact hP⟩, hS.F ht⟩) hS.2.2 dX4_best_63
      · refine lv_aload_n hx hb dX4_best_9 rfl (lv_at hl 0 rfl) ?_
        refine va_get hx hb hts hi_X4_best_X4 hown hK hP 0 (bd_o90 cI u F G) rfl 3 (by decide) (hts _ (List.mem_of_getElem? (i := 1) rfl)) (fun _ h9 => h9) rfl dX4_best_10 ?_
        refine lv_aload_n hx hb dX4_best_13 rfl (lv_at hl 0 rfl) ?_
        refine va_get hx hb hts hi_X4_best_X4 hown hK hP 0 (bd_o90 cI u F G) rfl 0 (by decide) (hts _ (List.mem_of_getElem? (i := 2) rfl)) (fun _ h9 => h9) rfl dX4_best_14 ?_
        refine lv_iload_n hx hb dX4_best_17 rfl (lv_at hl 2 rfl) ?_
        obtain ⟨⟨Fa, Ga⟩, hc, h⟩ := q_some h
        refine va_callv (va_runV (C := RX3) (As := [.ref (u 38), .int x2]) (rest := []) ⟨hx, hb, hml, hown, hts⟩ (mt_X3_follow l D cI (swF u) (swF F) (swF G) x2 Fa Ga (bd_kw_D (bd_sw_D ok.2.1)) hc) (cwV 2 hts gX4_best_X3_follow rfl rfl rfl (by decide +kernel) ⟨Nat.le_of_ble_eq_true rfl, Nat.le_of_ble_eq_true rfl⟩) ⟨kwR_b, va_recv hK hP (ci := 3) (q0 := 20) rfl rfl, (kwR_p (bd_kwt hP) hK hN).2⟩ rfl rfl hl.1 rfl (lv_room (Nat.le_of_ble_eq_true rfl)) dX4_best_18 ⟨Nat.le_of_ble_eq_true rfl, Nat.le_of_ble_eq_true rfl⟩) hS (fun q _ z => ok.2.2 q (bd_sw_A q (bd_kw_A q z))) (fun q z => ok.2.2 q (bd_sw_A q (bd_kw_A q z))) (fun z t H1 locs ht _ _ hB _ hk hS => ?_)
        subst ht
        have hP := bd_kwt_back ok.2.1 hP hk hB
        replace h : (qt F G Fa Ga fun F1 G1 => if (F1 62) = 0 then if x1 = (-1 : Int32) then f_X4_best_B50 (f_X4_best_L4 n4) F1 G1 x2 else qc (f_X3_isCheaperThan F1 G1) fun v1 => if v1 = 0 then f_X4_best_B56 (f_X4_best_L4 n4) F1 G1 x1 x2 else f_X4_best_B50 (f_X4_best_L4 n4) F1 G1 x2 else f_X4_best_B56 (f_X4_best_L4 n4) F1 G1 x1 x2) = some (rv, Fz, Gz) := h
        unfold qt at h
        generalize mtr F Fa = F1 at h hP
        generalize mtr G Ga = G1 at h hP
        refine lv_aload_n hx hb dX4_best_21 rfl (lv_at hl 0 rfl) ?_
        refine va_get hx hb hts hi_X4_best_X4 hown hK hP 0 (bd_o90 cI u F1 G1) rfl 3 (by decide) (hts _ (List.mem_of_getElem? (i := 1) rfl)) (fun _ h9 => h9) rfl dX4_best_22 ?_
        refine va_get hx hb hts hi_X4_best_X3 hown hK hP 20 (bd_o72 cI u F1 G1) rfl 12 (by decide) (hts _ (List.mem_of_getElem? (i := 3) rfl)) (fun _ h9 => h9) rfl dX4_best_25 ?_
        refine q_if_ne (tgt := 56) hx hb dX4_best_28 (by decide) h (fun h => ?_) (fun h => ?_)
        · exact j56 u F1 G1 x1 x2 _ _ ok hP hS _ hl h
        · refine lv_iload_n hx hb dX4_best_31 rfl (lv_at hl 1 rfl) ?_
          refine lv_iconst (v := -1) hx hb dX4_best_32 (by decide) ?_
          refine q_icmp_eq (tgt := 50) hx hb dX4_best_33 (by decide) h (fun h => ?_) (fun h => ?_)
          · exact j50 u F1 G1 x1 x2 _ _ ok hP hS _ hl h
          · refine lv_aload_n hx hb dX4_best_36 rfl (lv_at hl 0 rfl) ?_
            refine va_get hx hb hts hi_X4_best_X4 hown hK hP 0 (bd_o90 cI u F1 G1) rfl 3 (by decide) (hts _ (List.mem_of_getElem? (i := 1) rfl)) (fun _ h9 => h9) rfl dX4_best_37 ?_
            refine lv_aload_n hx hb dX4_best_40 rfl (lv_at hl 0 rfl) ?_
            refine va_get hx hb hts hi_X4_best_X4 hown hK hP 0 (bd_o90 cI u F1 G1) rfl 2 (by decide) (hts _ (List.mem_of_getElem? (i := 4) rfl)) (fun _ h9 => h9) rfl dX4_best_41 ?_
            obtain ⟨v1, hc1, h⟩ := q_some h
            refine q_cs (W.runV (C := RX3) (As := [.ref (u 22)]) (rest := []) ⟨hx, hb, hml, hown, hts⟩ (mt_X3_isCheaperThan l D cI u F1 G1 v1 hc1) (cwV 1 hts gX4_best_X3_isCheaperThan rfl rfl rfl (by decide +kernel) ⟨Nat.le_of_ble_eq_true rfl, Nat.le_of_ble_eq_true rfl⟩) ⟨bdR_b, va_recv hK hP (ci := 3) (q0 := 20) rfl rfl, (bdR_p hP hK hN).2⟩ rfl rfl hl.1 rfl (lv_room (Nat.le_of_ble_eq_true rfl)) dX4_best_44 ⟨Nat.le_of_ble_eq_true rfl, Nat.le_of_ble_eq_true rfl⟩) ?_
            refine q_if_eq (tgt := 56) hx hb dX4_best_47 (by decide) h (fun h => ?_) (fun h => ?_)
            · exact j56 u F1 G1 x1 x2 _ _ ok hP hS _ hl h
            · exact j50 u F1 G1 x1 x2 _ _ ok hP hS _ hl h
  refine lv_iconst (v := -1) hx hb dX4_best_0 (by decide) ?_
  refine lv_istore_n (lv' := [(1, .int (-1)), (0, .ref (ad 90))]) hx hb dX4_best_1 rfl hl (by decide) rfl (fun ls hl => ?_)
  refine lv_iconst (v := 0) hx hb dX4_best_2 (by decide) ?_
  refine lv_istore_n (lv' := [(2, .int 0), (1, .int (-1)), (0, .ref (ad 90))]) hx hb dX4_best_3 rfl hl (by decide) rfl (fun ls hl => ?_)
  exact j4 1000 ad F G (-1) 0 _ _ ⟨rfl, hDD, fun _ z => z⟩ hP hS _ (lv_sub hl [2, 1, 0] rfl) h
