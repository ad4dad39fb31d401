def R_law : String := "BeadDeskLaw"
def lw_P (b : Addr) (xs : List Int32) (args : Array Value) (s : State) : Prop := args = #[.ref b] ∧ s.IntsAt b xs ∧ xs.length ≤ 3072 ∧ (Jvm.Cond.and given_1 narrow_1).before args s = true
def lw_Q (_ : Array Value) (s : State) (o : Outcome) (t : State) : Prop := o = .returned (some (.int 1)) ∧ Framed s o t [] 59 8615
def lw_Z (below : List Frame) (a : Array Value) (s : State) : State → Prop := fun t => ∃ o, t.status = .running ∧ Ended t below o ∧ lw_Q a s o t
/-- the law's own end, with 1 on the stack, nothing written that was there before, its room as the claim has it -/
theorem lw_ret {p : Program} {l : Launch} {e : Env} {s : State} {m : MethodId} {below : List Frame} {meth : Method} {c : Code} {b : Nat} (hx : p.tables.exec = Jvm.exec) (hb : c.code = code) (hr : meth.sig.returnType = ret) (hlocks : meth.locks = false) {pc : Nat} {H : Heap} {ls : Array Slot} (hdg : decode code pc = .ok (.ireturn, 1)) : W p l e room_1 s m #[Value.ref b] below meth c H [] 59 8615 (lw_Z below #[Value.ref b] s) (F0 m pc ls [.int 1]) := by
  intro T hT X
  obtain ⟨fs, hret, hrun, hended, hW, hframe⟩ := X.leave (v := some (.int 1)) (hlocks := hlocks) (fun h => by rw [hr] at h; cases h)
  have hmeth' : T.vm.method? m = some meth := X.method'
  refine ⟨T.setFrames fs, ?_, .returned (some (.int 1)), hrun, hended, rfl, ⟨_, rfl⟩, hW, hframe⟩
  jvm_step X.here [X.here.top, hx, hb, hdg, hmeth', hr, ret, narrow_b1]
  (try refine ⟨rfl, ?_⟩); (try refine ⟨rfl, ?_⟩)
  first | (intro acts; rw [hret _ acts rfl rfl rfl]) | rw [hret _ _ rfl rfl rfl]
  exact Steps.refl _
/-- what holds at the law's entry: the machine, the code, the tables' words (any of lw_tbl by 'hts w (by decide +kernel)'), the script of L ints xs at the cell b, what the Statement gives of the start (any of its parts by flat_of_before) -/
def lw_At (p : Program) (s : State) (m : MethodId) (meth : Method) (c : Code) (b L : Nat) (xs : Nat → Int32) : Prop :=
  p.tables.exec = Jvm.exec ∧ c.code = code ∧ meth.sig.returnType = ret ∧ c.maxLocals = 4 ∧ s.vm.findClass R_law = some m.cls ∧ (∀ w ∈ lw_tbl, w.before #[Value.ref b] s = true) ∧ va_X b L xs s s.heap ∧ b < s.heap.size ∧ meth.locks = false ∧ (Jvm.Cond.and given_1 narrow_1).before #[Value.ref b] s = true
def lh_beads (Rl : (Nat → Int32) → (Nat → Nat → Int32) → (Nat → Int32) → (Nat → Nat → Int32) → Prop) : Prop := ∀ (F : Nat → Int32) (G : Nat → Nat → Int32) (M : Nat → Int32) (N : Nat → Nat → Int32), Rl F G M N → ∀ (a1 : Int32) (a2 : Int32) (a3 : Int32) (a4 : Int64), ∃ (r : Int32) (F1 : Nat → Int32) (G1 : Nat → Nat → Int32) (M1 : Nat → Int32) (N1 : Nat → Nat → Int32), f_X4_beads F G a1 a2 a3 a4 = some (r, F1, G1) ∧ f_X5_beads M N a1 a2 a3 a4 = some (r, M1, N1) ∧ Rl F1 G1 M1 N1
def lh_stitch (Rl : (Nat → Int32) → (Nat → Nat → Int32) → (Nat → Int32) → (Nat → Nat → Int32) → Prop) : Prop := ∀ (F : Nat → Int32) (G : Nat → Nat → Int32) (M : Nat → Int32) (N : Nat → Nat → Int32), Rl F G M N → ∀ (a1 : Int32), ∃ (r : Int32) (F1 : Nat → Int32) (G1 : Nat → Nat → Int32) (M1 : Nat → Int32) (N1 : Nat → Nat → Int32), f_X4_stitch F G a1 = some (r, F1, G1) ∧ f_X5_stitch M N a1 = some (r, M1, N1) ∧ Rl F1 G1 M1 N1
def lh_ring (Rl : (Nat → Int32) → (Nat → Nat → Int32) → (Nat → Int32) → (Nat → Nat → Int32) → Prop) : Prop := ∀ (F : Nat → Int32) (G : Nat → Nat → Int32) (M : Nat → Int32) (N : Nat → Nat → Int32), Rl F G M N → ∀ (a1 : Int32), ∃ (r : Int32) (F1 : Nat → Int32) (G1 : Nat → Nat → Int32) (M1 : Nat → Int32) (N1 : Nat → Nat → Int32), f_X4_ring F G a1 = some (r, F1, G1) ∧ f_X5_ring M N a1 = some (r, M1, N1) ∧ Rl F1 G1 M1 N1
def lh_colour (Rl : (Nat → Int32) → (Nat → Nat → Int32) → (Nat → Int32) → (Nat → Nat → Int32) → Prop) : Prop := ∀ (F : Nat → Int32) (G : Nat → Nat → Int32) (M : Nat → Int32) (N : Nat → Nat → Int32), Rl F G M N → ∀ (a1 : Int32) (a2 : Int32) (a3 : Int32) (a4 : Int32), ∃ (r : Int32) (F1 : Nat → Int32) (G1 : Nat → Nat → Int32) (M1 : Nat → Int32) (N1 : Nat → Nat → Int32), f_X4_colour F G a1 a2 a3 a4 = some (r, F1, G1) ∧ f_X5_colour M N a1 a2 a3 a4 = some (r, M1, N1) ∧ Rl F1 G1 M1 N1
def lh_thread (Rl : (Nat → Int32) → (Nat → Nat → Int32) → (Nat → Int32) → (Nat → Nat → Int32) → Prop) : Prop := ∀ (F : Nat → Int32) (G : Nat → Nat → Int32) (M : Nat → Int32) (N : Nat → Nat → Int32), Rl F G M N → ∀ (a1 : Int32) (a2 : Int32), ∃ (r : Int32) (F1 : Nat → Int32) (G1 : Nat → Nat → Int32) (M1 : Nat → Int32) (N1 : Nat → Nat → Int32), f_X4_thread F G a1 a2 = some (r, F1, G1) ∧ f_X5_thread M N a1 a2 = some (r, M1, N1) ∧ Rl F1 G1 M1 N1
def lh_cell (Rl : (Nat → Int32) → (Nat → Nat → Int32) → (Nat → Int32) → (Nat → Nat → Int32) → Prop) : Prop := ∀ (F : Nat → Int32) (G : Nat → Nat → Int32) (M : Nat → Int32) (N : Nat → Nat → Int32), Rl F G M N → ∀ (a1 : Int32) (a2 : Int32), ∃ r : Int32, f_X4_cell F G a1 a2 = some r ∧ f_X5_cell M N a1 a2 = some r
def lh_work (Rl : (Nat → Int32) → (Nat → Nat → Int32) → (Nat → Int32) → (Nat → Nat → Int32) → Prop) : Prop := ∀ (F : Nat → Int32) (G : Nat → Nat → Int32) (M : Nat → Int32) (N : Nat → Nat → Int32), Rl F G M N → ∀ (a1 : Int32), ∃ (r : Int32) (F1 : Nat → Int32) (G1 : Nat → Nat → Int32) (M1 : Nat → Int32) (N1 : Nat → Nat → Int32), f_X4_work F G a1 = some (r, F1, G1) ∧ f_X5_work M N a1 = some (r, M1, N1) ∧ Rl F1 G1 M1 N1
def lh_worked (Rl : (Nat → Int32) → (Nat → Nat → Int32) → (Nat → Int32) → (Nat → Nat → Int32) → Prop) : Prop := ∀ (F : Nat → Int32) (G : Nat → Nat → Int32) (M : Nat → Int32) (N : Nat → Nat → Int32), Rl F G M N → ∀ (a1 : Int32), ∃ r : Int32, f_X4_worked F G a1 = some r ∧ f_X5_worked M N a1 = some r
def lh_picked (Rl : (Nat → Int32) → (Nat → Nat → Int32) → (Nat → Int32) → (Nat → Nat → Int32) → Prop) : Prop := ∀ (F : Nat → Int32) (G : Nat → Nat → Int32) (M : Nat → Int32) (N : Nat → Nat → Int32), Rl F G M N → ∀ (a1 : Int32) (a2 : Int32), ∃ r : Int32, f_X4_picked F G a1 a2 = some r ∧ f_X5_picked M N a1 a2 = some r
def lh_order (Rl : (Nat → Int32) → (Nat → Nat → Int32) → (Nat → Int32) → (Nat → Nat → Int32) → Prop) : Prop := ∀ (F : Nat → Int32) (G : Nat → Nat → Int32) (M : Nat → Int32) (N : Nat → Nat → Int32), Rl F G M N → ∀ (a1 : Int32) (a2 : Int32), ∃ r : Int32, f_X4_order F G a1 a2 = some r ∧ f_X5_order M N a1 a2 = some r
def lh_hang (Rl : (Nat → Int32) → (Nat → Nat → Int32) → (Nat → Int32) → (Nat → Nat → Int32) → Prop) : Prop := ∀ (F : Nat → Int32) (G : Nat → Nat → Int32) (M : Nat → Int32) (N : Nat → Nat → Int32), Rl F G M N → ∀ (a1 : Int32), ∃ (r : Int32) (F1 : Nat → Int32) (G1 : Nat → Nat → Int32) (M1 : Nat → Int32) (N1 : Nat → Nat → Int32), f_X4_hang F G a1 = some (r, F1, G1) ∧ f_X5_hang M N a1 = some (r, M1, N1) ∧ Rl F1 G1 M1 N1
def lh_pull (Rl : (Nat → Int32) → (Nat → Nat → Int32) → (Nat → Int32) → (Nat → Nat → Int32) → Prop) : Prop := ∀ (F : Nat → Int32) (G : Nat → Nat → Int32) (M : Nat → Int32) (N : Nat → Nat → Int32), Rl F G M N → ∀ (a1 : Int32), ∃ (r : Int32) (F1 : Nat → Int32) (G1 : Nat → Nat → Int32) (M1 : Nat → Int32) (N1 : Nat → Nat → Int32), f_X4_pull F G a1 = some (r, F1, G1) ∧ f_X5_pull M N a1 = some (r, M1, N1) ∧ Rl F1 G1 M1 N1
def lh_pulled (Rl : (Nat → Int32) → (Nat → Nat → Int32) → (Nat → Int32) → (Nat → Nat → Int32) → Prop) : Prop := ∀ (F : Nat → Int32) (G : Nat → Nat → Int32) (M : Nat → Int32) (N : Nat → Nat → Int32), Rl F G M N → ∀ (a1 : Int32) (a2 : Int32), ∃ (r : Int32) (F1 : Nat → Int32) (G1 : Nat → Nat → Int32) (M1 : Nat → Int32) (N1 : Nat → Nat → Int32), f_X4_pulled F G a1 a2 = some (r, F1, G1) ∧ f_X5_pulled M N a1 a2 = some (r, M1, N1) ∧ Rl F1 G1 M1 N1
def lh_woven (Rl : (Nat → Int32) → (Nat → Nat → Int32) → (Nat → Int32) → (Nat → Nat → Int32) → Prop) : Prop := ∀ (F : Nat → Int32) (G : Nat → Nat → Int32) (M : Nat → Int32) (N : Nat → Nat → Int32), Rl F G M N → ∀ (a1 : Int32) (a2 : Int32), ∃ r : Int32, f_X4_woven F G a1 a2 = some r ∧ f_X5_woven M N a1 a2 = some r
def lh_best (Rl : (Nat → Int32) → (Nat → Nat → Int32) → (Nat → Int32) → (Nat → Nat → Int32) → Prop) : Prop := ∀ (F : Nat → Int32) (G : Nat → Nat → Int32) (M : Nat → Int32) (N : Nat → Nat → Int32), Rl F G M N → ∃ (r : Int32) (F1 : Nat → Int32) (G1 : Nat → Nat → Int32) (M1 : Nat → Int32) (N1 : Nat → Nat → Int32), f_X4_best F G  = some (r, F1, G1) ∧ f_X5_best M N  = some (r, M1, N1) ∧ Rl F1 G1 M1 N1
def lh_bought (Rl : (Nat → Int32) → (Nat → Nat → Int32) → (Nat → Int32) → (Nat → Nat → Int32) → Prop) : Prop := ∀ (F : Nat → Int32) (G : Nat → Nat → Int32) (M : Nat → Int32) (N : Nat → Nat → Int32), Rl F G M N → ∀ (a1 : Int32) (a2 : Int32), ∃ r : Int32, f_X4_bought F G a1 a2 = some r ∧ f_X5_bought M N a1 a2 = some r
def lh_count (Rl : (Nat → Int32) → (Nat → Nat → Int32) → (Nat → Int32) → (Nat → Nat → Int32) → Prop) : Prop := ∀ (F : Nat → Int32) (G : Nat → Nat → Int32) (M : Nat → Int32) (N : Nat → Nat → Int32), Rl F G M N → ∀ (a1 : Int32), ∃ r : Int32, f_X4_count F G a1 = some r ∧ f_X5_count M N a1 = some r
def lwOK (N0 : Nat) (cI cZ : ClassId) (u v : Nat → Nat) : Prop := va_D (fun _ => True) (bdW cI u (fun _ => 0) (fun _ _ => 0)) ∧ va_D (fun _ => True) (mW cI cZ v (fun _ => 0) (fun _ _ => 0)) ∧ (∀ q, bdA cI u q → ¬ mA cI cZ v q) ∧ (∀ q, bdA cI u q → N0 ≤ q) ∧ (∀ q, mA cI cZ v q → N0 ≤ q)
theorem bd_in {cI : ClassId} {u : Nat → Nat} {F : Nat → Int32} {G : Nat → Nat → Int32} {k : Nat} {q : Nat × va_E} (h : (bdW cI u F G)[k]? = some q) : bdA cI u q.1 := by
  obtain ⟨y, hy⟩ := q_in (w1 := bdW cI u F G) (w2 := bdW cI u (fun _ => 0) (fun _ _ => 0)) rfl (q := q.1) (x := q.2) h
  exact ⟨k, y, hy⟩
theorem m_in {cI cZ : ClassId} {u : Nat → Nat} {F : Nat → Int32} {G : Nat → Nat → Int32} {k : Nat} {q : Nat × va_E} (h : (mW cI cZ u F G)[k]? = some q) : mA cI cZ u q.1 := by
  obtain ⟨y, hy⟩ := q_in (w1 := mW cI cZ u F G) (w2 := mW cI cZ u (fun _ => 0) (fun _ _ => 0)) rfl (q := q.1) (x := q.2) h
  exact ⟨k, y, hy⟩
section QL
variable {p : Program} {l : Launch} {e : Env} {R : Room} {s : State} {m : MethodId} {args : Array Value} {below : List Frame} {meth : Method} {c : Code} {H : Heap} {locs : List Loc} {cells slots : Nat} {Q : State → Prop}
variable {cc : ByteArray} {pc : Nat} {ls : Array Slot} {rest st0 : List Value} {D : va_G} {H0 : Heap} {cI cZ : ClassId} {u v : Nat → Nat} {N0 : Nat} {aa : Array Value} {rv : Int32}
variable {F F1 M M1 : Nat → Int32} {G G1 N N1 : Nat → Nat → Int32}
theorem lw_cb (hr : va_Run p l e R s m args below meth c H locs cells slots 0 0 (F0 m pc ls st0) rest (va_Qi (fun z (_ : Unit) => z = rv) (fun _ t => va_P D vwCl (bdW cI u F1 G1) t.heap) (bdA cI u) aa) (bdA cI u)) (ok : lwOK N0 cI cZ u v) (hPm : va_P D vwCl (mW cI cZ v M N) H) (hS : va_S (fun q => N0 ≤ q) H0 H locs) (kk : ∀ (H1 : Heap) (locs1 : List Loc), va_P D vwCl (bdW cI u F1 G1) H1 → va_P D vwCl (mW cI cZ v M N) H1 → va_S (fun q => N0 ≤ q) H0 H1 locs1 → W p l e R s m args below meth c H1 locs1 cells slots Q (F0 m (pc + 3) ls (.int rv :: rest))) : W p l e R s m args below meth c H locs cells slots Q (F0 m pc ls st0) :=
  va_calli hr hS (fun q _ h => ok.2.2.2.1 q h) (fun q h => ok.2.2.2.1 q h) (fun z _ t H1 locs1 ht _ hz hB _ hk hS1 => by subst ht; rw [hz]; exact kk _ locs1 hB (hPm.kept (fun k q hq => hk q.1 ((hPm k q hq).lt) (fun hb => ok.2.2.1 q.1 hb (m_in hq)))) hS1)
theorem lw_cm (hr : va_Run p l e R s m args below meth c H locs cells slots 0 0 (F0 m pc ls st0) rest (va_Qi (fun z (_ : Unit) => z = rv) (fun _ t => va_P D vwCl (mW cI cZ v M1 N1) t.heap) (mA cI cZ v) aa) (mA cI cZ v)) (ok : lwOK N0 cI cZ u v) (hPb : va_P D vwCl (bdW cI u F G) H) (hS : va_S (fun q => N0 ≤ q) H0 H locs) (kk : ∀ (H1 : Heap) (locs1 : List Loc), va_P D vwCl (bdW cI u F G) H1 → va_P D vwCl (mW cI cZ v M1 N1) H1 → va_S (fun q => N0 ≤ q) H0 H1 locs1 → W p l e R s m args below meth c H1 locs1 cells slots Q (F0 m (pc + 3) ls (.int rv :: rest))) : W p l e R s m args below meth c H locs cells slots Q (F0 m pc ls st0) :=
  va_calli hr hS (fun q _ h => ok.2.2.2.2 q h) (fun q h => ok.2.2.2.2 q h) (fun z _ t H1 locs1 ht _ hz hB _ hk hS1 => by subst ht; rw [hz]; exact kk _ locs1 (hPb.kept (fun k q hq => hk q.1 ((hPb k q hq).lt) (fun hb => ok.2.2.1 q.1 (bd_in hq) hb))) hB hS1)
theorem lw_cx (hr : va_Run p l e R s m args below meth c H locs cells slots 0 0 (F0 m pc ls st0) rest (va_Qi (fun z (x : Nat → Nat) => z = rv ∧ adOK cI u x) (fun x t => va_P D vwCl (bdW cI x F1 G1) t.heap) (bdA cI u) aa) (bdA cI u)) (ok : lwOK N0 cI cZ u v) (hPm : va_P D vwCl (mW cI cZ v M N) H) (hS : va_S (fun q => N0 ≤ q) H0 H locs) (kk : ∀ (x : Nat → Nat) (H1 : Heap) (locs1 : List Loc), x 90 = u 90 → lwOK N0 cI cZ x v → va_P D vwCl (bdW cI x F1 G1) H1 → va_P D vwCl (mW cI cZ v M N) H1 → va_S (fun q => N0 ≤ q) H0 H1 locs1 → W p l e R s m args below meth c H1 locs1 cells slots Q (F0 m (pc + 3) ls (.int rv :: rest))) : W p l e R s m args below meth c H locs cells slots Q (F0 m pc ls st0) :=
  va_calli hr hS (fun q _ h => ok.2.2.2.1 q h) (fun q h => ok.2.2.2.1 q h) (fun z x t H1 locs1 ht _ hz hB _ hk hS1 => by subst ht; rw [hz.1]; exact kk x _ locs1 hz.2.1 ⟨hz.2.2.1, ok.2.1, fun q h => ok.2.2.1 q (hz.2.2.2 q h), fun q h => ok.2.2.2.1 q (hz.2.2.2 q h), ok.2.2.2.2⟩ hB (hPm.kept (fun k q hq => hk q.1 ((hPm k q hq).lt) (fun hb => ok.2.2.1 q.1 hb (m_in hq)))) hS1)
theorem q_sld (hx : p.tables.exec = Jvm.exec) (hb : c.code = cc) {A : Nat → Prop} {b L : Nat} {xs : Nat → Int32} (hX : va_X b L xs s H0) (hbl : b < H0.size) (hbA : ¬ A b) (hS : va_S A H0 H locs) {i a : Int32} (hin : vp_in i L) (hv : xs i.toNatClampNeg = a) (hdg : decode cc pc = .ok (.iaload, 1)) (kk : W p l e R s m args below meth c H locs cells slots Q (F0 m (pc + 1) ls (.int a :: rest))) : W p l e R s m args below meth c H locs cells slots Q (F0 m pc ls (.int i :: .ref b :: rest)) := va_sld hx hb hX hbl hbA hS hin hdg (by rw [hv]; exact kk)
end QL
theorem lw_lim {L j : Nat} (hL : L ≤ 3072) (hj : j ≤ L) (h : ¬ (nI L - 6 < nI j)) : j + 6 ≤ L := by
  rcases Nat.lt_or_ge L (j + 6) with q | q
  · exact absurd (show nI L - 6 < nI j by
      rw [Int32.lt_iff_toInt_lt, show (6 : Int32) = nI 6 from rfl, pk_sub_toInt (by omega) (by omega), nI_toInt (by omega)]
      omega) h
  · exact q
set_option maxHeartbeats 4000000 in
set_option maxRecDepth 100000 in
theorem law_beads {p : Program} {l : Launch} {e : Env} {s : State} {m : MethodId} {below : List Frame} {meth : Method} {c : Code} {D : va_G} {cI cZ : ClassId} {b L : Nat} {xs : Nat → Int32} (C0 : lw_At p s m meth c b L xs) {Rl : (Nat → Int32) → (Nat → Nat → Int32) → (Nat → Int32) → (Nat → Nat → Int32) → Prop} (hRo : lh_beads Rl) (hK : va_K D vwCl [(cI, FieldType.int), (cZ, FieldType.boolean)] s) (hN : nN s) {j : Nat} (hL : L ≤ 3072) (hj : j + 6 ≤ L) (k657 : ∀ (u v : Nat → Nat) (F : Nat → Int32) (G : Nat → Nat → Int32) (M : Nat → Int32) (N : Nat → Nat → Int32) (H : Heap) (locs : List Loc), Rl F G M N → lwOK s.heap.size cI cZ u v → va_P D vwCl (bdW cI u F G) H → va_P D vwCl (mW cI cZ v M N) H → va_S (fun q => s.heap.size ≤ q) s.heap H locs → ∀ ls : Array Slot, lv_has ls 4 [(0, .ref b), (1, .ref (u 90)), (2, .ref (v 99)), (3, .int (nI j))] → W p l e room_1 s m #[Value.ref b] below meth c H locs 59 8615 (lw_Z below #[Value.ref b] s) (F0 m 657 ls [])) : ∀ (u v : Nat → Nat) (F : Nat → Int32) (G : Nat → Nat → Int32) (M : Nat → Int32) (N : Nat → Nat → Int32) (H : Heap) (locs : List Loc), Rl F G M N → lwOK s.heap.size cI cZ u v → va_P D vwCl (bdW cI u F G) H → va_P D vwCl (mW cI cZ v M N) H → va_S (fun q => s.heap.size ≤ q) s.heap H locs → ∀ ls : Array Slot, lv_has ls 4 [(0, .ref b), (1, .ref (u 90)), (2, .ref (v 99)), (3, .int (nI j))] → W p l e room_1 s m #[Value.ref b] below meth c H locs 59 8615 (lw_Z below #[Value.ref b] s) (F0 m 116 ls []) := by
  obtain ⟨hx, hb, hr, hml, hown, hts, hX, hbl, hlocks, hgv⟩ := C0
  have hbA : ¬ (fun q : Nat => s.heap.size ≤ q) b := Nat.not_le.mpr hbl
  have hK1 : va_K D vwCl [(cI, FieldType.int)] s := hK.sub [0] rfl
  intro u v F G M N H locs hRl ok hPb hPm hS ls hl
  obtain ⟨a1, e1⟩ : ∃ z : Int32, xs (nI j + 1).toNatClampNeg = z := ⟨_, rfl⟩
  have i1 : vp_in (nI j + 1) L := by rw [show nI j + 1 = nI (j + 1) from nI_add j 1]; exact vp_in_nI (by omega) (by omega)
  obtain ⟨a2, e2⟩ : ∃ z : Int32, xs (nI j + 2).toNatClampNeg = z := ⟨_, rfl⟩
  have i2 : vp_in (nI j + 2) L := by rw [show nI j + 2 = nI (j + 2) from nI_add j 2]; exact vp_in_nI (by omega) (by omega)
  obtain ⟨a3, e3⟩ : ∃ z : Int32, xs (nI j + 3).toNatClampNeg = z := ⟨_, rfl⟩
  have i3 : vp_in (nI j + 3) L := by rw [show nI j + 3 = nI (j + 3) from nI_add j 3]; exact vp_in_nI (by omega) (by omega)
  obtain ⟨a4, e4⟩ : ∃ z : Int32, xs (nI j + 4).toNatClampNeg = z := ⟨_, rfl⟩
  have i4 : vp_in (nI j + 4) L := by rw [show nI j + 4 = nI (j + 4) from nI_add j 4]; exact vp_in_nI (by omega) (by omega)
  obtain ⟨a5, e5⟩ : ∃ z : Int32, xs (nI j + 5).toNatClampNeg = z := ⟨_, rfl⟩
  have i5 : vp_in (nI j + 5) L := by rw [show nI j + 5 = nI (j + 5) from nI_add j 5]; exact vp_in_nI (by omega) (by omega)
  obtain ⟨r, F1, G1, M1, N1, h1, h2, hRl⟩ := hRo F G M N hRl a1 a2 a3 ((a4.toInt64 <<< ((32 : Int32).toInt64 &&& 63)) ||| (a5.toInt64 &&& 4294967295))
  refine lv_aload_n hx hb dL_law_116 rfl (lv_at hl 1 rfl) ?_
  refine lv_aload_n hx hb dL_law_117 rfl (lv_at hl 0 rfl) ?_
  refine lv_iload_n hx hb dL_law_118 rfl (lv_at hl 3 rfl) ?_
  refine lv_iconst (v := 1) hx hb dL_law_119 (by decide) ?_
  refine lv_iadd hx hb dL_law_120 ?_
  refine q_sld hx hb hX hbl hbA hS i1 e1 dL_law_121 ?_
  refine lv_aload_n hx hb dL_law_122 rfl (lv_at hl 0 rfl) ?_
  refine lv_iload_n hx hb dL_law_123 rfl (lv_at hl 3 rfl) ?_
  refine lv_iconst (v := 2) hx hb dL_law_124 (by decide) ?_
  refine lv_iadd hx hb dL_law_125 ?_
  refine q_sld hx hb hX hbl hbA hS i2 e2 dL_law_126 ?_
  refine lv_aload_n hx hb dL_law_127 rfl (lv_at hl 0 rfl) ?_
  refine lv_iload_n hx hb dL_law_128 rfl (lv_at hl 3 rfl) ?_
  refine lv_iconst (v := 3) hx hb dL_law_129 (by decide) ?_
  refine lv_iadd hx hb dL_law_130 ?_
  refine q_sld hx hb hX hbl hbA hS i3 e3 dL_law_131 ?_
  refine lv_aload_n hx hb dL_law_132 rfl (lv_at hl 0 rfl) ?_
  refine lv_iload_n hx hb dL_law_133 rfl (lv_at hl 3 rfl) ?_
  refine lv_iconst (v := 4) hx hb dL_law_134 (by decide) ?_
  refine lv_iadd hx hb dL_law_135 ?_
  refine q_sld hx hb hX hbl hbA hS i4 e4 dL_law_136 ?_
  refine lv_i2l hx hb dL_law_137 rfl ?_
  refine lv_bipush (v := 32) hx hb dL_law_138 (by decide) ?_
  refine lv_lshl hx hb dL_law_140 rfl ?_
  refine lv_aload_n hx hb dL_law_141 rfl (lv_at hl 0 rfl) ?_
  refine lv_iload_n hx hb dL_law_142 rfl (lv_at hl 3 rfl) ?_
  refine lv_iconst (v := 5) hx hb dL_law_143 (by decide) ?_
  refine lv_iadd hx hb dL_law_144 ?_
  refine q_sld hx hb hX hbl hbA hS i5 e5 dL_law_145 ?_
  refine lv_i2l hx hb dL_law_146 rfl ?_
  refine lv_ldc2 (v := 4294967295) hx hb hown (hts _ lwm_610) dL_law_147 ?_
  refine lv_land hx hb dL_law_150 ?_
  refine lv_lor hx hb dL_law_151 ?_
  refine lw_cb (va_runV (C := RX4) (As := [.int a1, .int a2, .int a3, .long ((a4.toInt64 <<< ((32 : Int32).toInt64 &&& 63)) ||| (a5.toInt64 &&& 4294967295))]) (rest := []) ⟨hx, hb, hml, hown, hts⟩ (mt_X4_beads l D cI u F G a1 a2 a3 ((a4.toInt64 <<< ((32 : Int32).toInt64 &&& 63)) ||| (a5.toInt64 &&& 4294967295)) r F1 G1 ok.1 h1) (cwV 4 hts lV_X4_beads rfl rfl rfl (by decide +kernel) ⟨Nat.le_of_ble_eq_true rfl, Nat.le_of_ble_eq_true rfl⟩) ⟨bdR_b, va_recv hK1 hPb (ci := 4) (q0 := 0) rfl rfl, (bdR_p hPb hK1 hN).2⟩ rfl rfl hl.1 rfl (lv_room (Nat.le_of_ble_eq_true rfl)) dL_law_152 ⟨Nat.le_refl _, Nat.le_refl _⟩) ok hPm hS (fun H locs hPb hPm hS => ?_)
  refine lv_aload_n hx hb dL_law_155 rfl (lv_at hl 2 rfl) ?_
  refine lv_aload_n hx hb dL_law_156 rfl (lv_at hl 0 rfl) ?_
  refine lv_iload_n hx hb dL_law_157 rfl (lv_at hl 3 rfl) ?_
  refine lv_iconst (v := 1) hx hb dL_law_158 (by decide) ?_
  refine lv_iadd hx hb dL_law_159 ?_
  refine q_sld hx hb hX hbl hbA hS i1 e1 dL_law_160 ?_
  refine lv_aload_n hx hb dL_law_161 rfl (lv_at hl 0 rfl) ?_
  refine lv_iload_n hx hb dL_law_162 rfl (lv_at hl 3 rfl) ?_
  refine lv_iconst (v := 2) hx hb dL_law_163 (by decide) ?_
  refine lv_iadd hx hb dL_law_164 ?_
  refine q_sld hx hb hX hbl hbA hS i2 e2 dL_law_165 ?_
  refine lv_aload_n hx hb dL_law_166 rfl (lv_at hl 0 rfl) ?_
  refine lv_iload_n hx hb dL_law_167 rfl (lv_at hl 3 rfl) ?_
  refine lv_iconst (v := 3) hx hb dL_law_168 (by decide) ?_
  refine lv_iadd hx hb dL_law_169 ?_
  refine q_sld hx hb hX hbl hbA hS i3 e3 dL_law_170 ?_
  refine lv_aload_n hx hb dL_law_171 rfl (lv_at hl 0 rfl) ?_
  refine lv_iload_n hx hb dL_law_172 rfl (lv_at hl 3 rfl) ?_
  refine lv_iconst (v := 4) hx hb dL_law_173 (by decide) ?_
  refine lv_iadd hx hb dL_law_174 ?_
  refine q_sld hx hb hX hbl hbA hS i4 e4 dL_law_175 ?_
  refine lv_i2l hx hb dL_law_176 rfl ?_
  refine lv_bipush (v := 32) hx hb dL_law_177 (by decide) ?_
  refine lv_lshl hx hb dL_law_179 rfl ?_
  refine lv_aload_n hx hb dL_law_180 rfl (lv_at hl 0 rfl) ?_
  refine lv_iload_n hx hb dL_law_181 rfl (lv_at hl 3 rfl) ?_
  refine lv_iconst (v := 5) hx hb dL_law_182 (by decide) ?_
  refine lv_iadd hx hb dL_law_183 ?_
  refine q_sld hx hb hX hbl hbA hS i5 e5 dL_law_184 ?_
  refine lv_i2l hx hb dL_law_185 rfl ?_
  refine lv_ldc2 (v := 4294967295) hx hb hown (hts _ lwm_610) dL_law_186 ?_
  refine lv_land hx hb dL_law_189 ?_
  refine lv_lor hx hb dL_law_190 ?_
  refine lw_cm (va_runV (C := RX5) (As := [.int a1, .int a2, .int a3, .long ((a4.toInt64 <<< ((32 : Int32).toInt64 &&& 63)) ||| (a5.toInt64 &&& 4294967295))]) (rest := [.int r]) ⟨hx, hb, hml, hown, hts⟩ (mt_X5_beads l D cI cZ v M N a1 a2 a3 ((a4.toInt64 <<< ((32 : Int32).toInt64 &&& 63)) ||| (a5.toInt64 &&& 4294967295)) r M1 N1 ok.2.1 h2) (cwV 4 hts lV_X5_beads rfl rfl rfl (by decide +kernel) ⟨Nat.le_of_ble_eq_true rfl, Nat.le_of_ble_eq_true rfl⟩) ⟨mR_b, va_recv hK hPm (ci := 5) (q0 := 0) rfl rfl, (mR_p hPm hK trivial).2⟩ rfl rfl hl.1 rfl (lv_room (Nat.le_of_ble_eq_true rfl)) dL_law_191 ⟨Nat.le_refl _, Nat.le_refl _⟩) ok hPb hS (fun H locs hPb hPm hS => ?_)
  refine lv_icmp_eq (tgt := 657) hx hb dL_law_194 (by decide) (fun _ => ?_) (fun cn => absurd rfl cn)
  exact k657 u v F1 G1 M1 N1 _ _ hRl ok hPb hPm hS ls hl
set_option maxHeartbeats 4000000 in
set_option maxRecDepth 100000 in
theorem law_stitch {p : Program} {l : Launch} {e : Env} {s : State} {m : MethodId} {below : List Frame} {meth : Method} {c : Code} {D : va_G} {cI cZ : ClassId} {b L : Nat} {xs : Nat → Int32} (C0 : lw_At p s m meth c b L xs) {Rl : (Nat → Int32) → (Nat → Nat → Int32) → (Nat → Int32) → (Nat → Nat → Int32) → Prop} (hRo : lh_stitch Rl) (hK : va_K D vwCl [(cI, FieldType.int), (cZ, FieldType.boolean)] s) (hN : nN s) {j : Nat} (hL : L ≤ 3072) (hj : j + 6 ≤ L) (k657 : ∀ (u v : Nat → Nat) (F : Nat → Int32) (G : Nat → Nat → Int32) (M : Nat → Int32) (N : Nat → Nat → Int32) (H : Heap) (locs : List Loc), Rl F G M N → lwOK s.heap.size cI cZ u v → va_P D vwCl (bdW cI u F G) H → va_P D vwCl (mW cI cZ v M N) H → va_S (fun q => s.heap.size ≤ q) s.heap H locs → ∀ ls : Array Slot, lv_has ls 4 [(0, .ref b), (1, .ref (u 90)), (2, .ref (v 99)), (3, .int (nI j))] → W p l e room_1 s m #[Value.ref b] below meth c H locs 59 8615 (lw_Z below #[Value.ref b] s) (F0 m 657 ls [])) : ∀ (u v : Nat → Nat) (F : Nat → Int32) (G : Nat → Nat → Int32) (M : Nat → Int32) (N : Nat → Nat → Int32) (H : Heap) (locs : List Loc), Rl F G M N → lwOK s.heap.size cI cZ u v → va_P D vwCl (bdW cI u F G) H → va_P D vwCl (mW cI cZ v M N) H → va_S (fun q => s.heap.size ≤ q) s.heap H locs → ∀ ls : Array Slot, lv_has ls 4 [(0, .ref b), (1, .ref (u 90)), (2, .ref (v 99)), (3, .int (nI j))] → W p l e room_1 s m #[Value.ref b] below meth c H locs 59 8615 (lw_Z below #[Value.ref b] s) (F0 m 199 ls []) := by
  obtain ⟨hx, hb, hr, hml, hown, hts, hX, hbl, hlocks, hgv⟩ := C0
  have hbA : ¬ (fun q : Nat => s.heap.size ≤ q) b := Nat.not_le.mpr hbl
  have hK1 : va_K D vwCl [(cI, FieldType.int)] s := hK.sub [0] rfl
  intro u v F G M N H locs hRl ok hPb hPm hS ls hl
  obtain ⟨a1, e1⟩ : ∃ z : Int32, xs (nI j + 1).toNatClampNeg = z := ⟨_, rfl⟩
  have i1 : vp_in (nI j + 1) L := by rw [show nI j + 1 = nI (j + 1) from nI_add j 1]; exact vp_in_nI (by omega) (by omega)
  obtain ⟨r, F1, G1, M1, N1, h1, h2, hRl⟩ := hRo F G M N hRl a1
  refine lv_aload_n hx hb dL_law_199 rfl (lv_at hl 1 rfl) ?_
  refine lv_aload_n hx hb dL_law_200 rfl (lv_at hl 0 rfl) ?_
  refine lv_iload_n hx hb dL_law_201 rfl (lv_at hl 3 rfl) ?_
  refine lv_iconst (v := 1) hx hb dL_law_202 (by decide) ?_
  refine lv_iadd hx hb dL_law_203 ?_
  refine q_sld hx hb hX hbl hbA hS i1 e1 dL_law_204 ?_
  refine lw_cb (va_runV (C := RX4) (As := [.int a1]) (rest := []) ⟨hx, hb, hml, hown, hts⟩ (mt_X4_stitch l D cI u F G a1 r F1 G1 ok.1 h1) (cwV 1 hts lV_X4_stitch rfl rfl rfl (by decide +kernel) ⟨Nat.le_of_ble_eq_true rfl, Nat.le_of_ble_eq_true rfl⟩) ⟨bdR_b, va_recv hK1 hPb (ci := 4) (q0 := 0) rfl rfl, (bdR_p hPb hK1 hN).2⟩ rfl rfl hl.1 rfl (lv_room (Nat.le_of_ble_eq_true rfl)) dL_law_205 ⟨Nat.le_refl _, Nat.le_refl _⟩) ok hPm hS (fun H locs hPb hPm hS => ?_)
  refine lv_aload_n hx hb dL_law_208 rfl (lv_at hl 2 rfl) ?_
  refine lv_aload_n hx hb dL_law_209 rfl (lv_at hl 0 rfl) ?_
  refine lv_iload_n hx hb dL_law_210 rfl (lv_at hl 3 rfl) ?_
  refine lv_iconst (v := 1) hx hb dL_law_211 (by decide) ?_
  refine lv_iadd hx hb dL_law_212 ?_
  refine q_sld hx hb hX hbl hbA hS i1 e1 dL_law_213 ?_
  refine lw_cm (va_runV (C := RX5) (As := [.int a1]) (rest := [.int r]) ⟨hx, hb, hml, hown, hts⟩ (mt_X5_stitch l D cI cZ v M N a1 r M1 N1 ok.2.1 h2) (cwV 1 hts lV_X5_stitch rfl rfl rfl (by decide +kernel) ⟨Nat.le_of_ble_eq_true rfl, Nat.le_of_ble_eq_true rfl⟩) ⟨mR_b, va_recv hK hPm (ci := 5) (q0 := 0) rfl rfl, (mR_p hPm hK trivial).2⟩ rfl rfl hl.1 rfl (lv_room (Nat.le_of_ble_eq_true rfl)) dL_law_214 ⟨Nat.le_refl _, Nat.le_refl _⟩) ok hPb hS (fun H locs hPb hPm hS => ?_)
  refine lv_icmp_eq (tgt := 657) hx hb dL_law_217 (by decide) (fun _ => ?_) (fun cn => absurd rfl cn)
  exact k657 u v F1 G1 M1 N1 _ _ hRl ok hPb hPm hS ls hl
set_option maxHeartbeats 4000000 in
set_option maxRecDepth 100000 in
theorem law_ring {p : Program} {l : Launch} {e : Env} {s : State} {m : MethodId} {below : List Frame} {meth : Method} {c : Code} {D : va_G} {cI cZ : ClassId} {b L : Nat} {xs : Nat → Int32} (C0 : lw_At p s m meth c b L xs) {Rl : (Nat → Int32) → (Nat → Nat → Int32) → (Nat → Int32) → (Nat → Nat → Int32) → Prop} (hRo : lh_ring Rl) (hK : va_K D vwCl [(cI, FieldType.int), (cZ, FieldType.boolean)] s) (hN : nN s) {j : Nat} (hL : L ≤ 3072) (hj : j + 6 ≤ L) (k657 : ∀ (u v : Nat → Nat) (F : Nat → Int32) (G : Nat → Nat → Int32) (M : Nat → Int32) (N : Nat → Nat → Int32) (H : Heap) (locs : List Loc), Rl F G M N → lwOK s.heap.size cI cZ u v → va_P D vwCl (bdW cI u F G) H → va_P D vwCl (mW cI cZ v M N) H → va_S (fun q => s.heap.size ≤ q) s.heap H locs → ∀ ls : Array Slot, lv_has ls 4 [(0, .ref b), (1, .ref (u 90)), (2, .ref (v 99)), (3, .int (nI j))] → W p l e room_1 s m #[Value.ref b] below meth c H locs 59 8615 (lw_Z below #[Value.ref b] s) (F0 m 657 ls [])) : ∀ (u v : Nat → Nat) (F : Nat → Int32) (G : Nat → Nat → Int32) (M : Nat → Int32) (N : Nat → Nat → Int32) (H : Heap) (locs : List Loc), Rl F G M N → lwOK s.heap.size cI cZ u v → va_P D vwCl (bdW cI u F G) H → va_P D vwCl (mW cI cZ v M N) H → va_S (fun q => s.heap.size ≤ q) s.heap H locs → ∀ ls : Array Slot, lv_has ls 4 [(0, .ref b), (1, .ref (u 90)), (2, .ref (v 99)), (3, .int (nI j))] → W p l e room_1 s m #[Value.ref b] below meth c H locs 59 8615 (lw_Z below #[Value.ref b] s) (F0 m 222 ls []) := by
  obtain ⟨hx, hb, hr, hml, hown, hts, hX, hbl, hlocks, hgv⟩ := C0
  have hbA : ¬ (fun q : Nat => s.heap.size ≤ q) b := Nat.not_le.mpr hbl
  have hK1 : va_K D vwCl [(cI, FieldType.int)] s := hK.sub [0] rfl
  intro u v F G M N H locs hRl ok hPb hPm hS ls hl
  obtain ⟨a1, e1⟩ : ∃ z : Int32, xs (nI j + 1).toNatClampNeg = z := ⟨_, rfl⟩
  have i1 : vp_in (nI j + 1) L := by rw [show nI j + 1 = nI (j + 1) from nI_add j 1]; exact vp_in_nI (by omega) (by omega)
  obtain ⟨r, F1, G1, M1, N1, h1, h2, hRl⟩ := hRo F G M N hRl a1
  refine lv_aload_n hx hb dL_law_222 rfl (lv_at hl 1 rfl) ?_
  refine lv_aload_n hx hb dL_law_223 rfl (lv_at hl 0 rfl) ?_
  refine lv_iload_n hx hb dL_law_224 rfl (lv_at hl 3 rfl) ?_
  refine lv_iconst (v := 1) hx hb dL_law_225 (by decide) ?_
  refine lv_iadd hx hb dL_law_226 ?_
  refine q_sld hx hb hX hbl hbA hS i1 e1 dL_law_227 ?_
  refine lw_cb (va_runV (C := RX4) (As := [.int a1]) (rest := []) ⟨hx, hb, hml, hown, hts⟩ (mt_X4_ring l D cI u F G a1 r F1 G1 ok.1 h1) (cwV 1 hts lV_X4_ring rfl rfl rfl (by decide +kernel) ⟨Nat.le_of_ble_eq_true rfl, Nat.le_of_ble_eq_true rfl⟩) ⟨bdR_b, va_recv hK1 hPb (ci := 4) (q0 := 0) rfl rfl, (bdR_p hPb hK1 hN).2⟩ rfl rfl hl.1 rfl (lv_room (Nat.le_of_ble_eq_true rfl)) dL_law_228 ⟨Nat.le_refl _, Nat.le_refl _⟩) ok hPm hS (fun H locs hPb hPm hS => ?_)
  refine lv_aload_n hx hb dL_law_231 rfl (lv_at hl 2 rfl) ?_
  refine lv_aload_n hx hb dL_law_232 rfl (lv_at hl 0 rfl) ?_
  refine lv_iload_n hx hb dL_law_233 rfl (lv_at hl 3 rfl) ?_
  refine lv_iconst (v := 1) hx hb dL_law_234 (by decide) ?_
  refine lv_iadd hx hb dL_law_235 ?_
  refine q_sld hx hb hX hbl hbA hS i1 e1 dL_law_236 ?_
  refine lw_cm (va_runV (C := RX5) (As := [.int a1]) (rest := [.int r]) ⟨hx, hb, hml, hown, hts⟩ (mt_X5_ring l D cI cZ v M N a1 r M1 N1 ok.2.1 h2) (cwV 1 hts lV_X5_ring rfl rfl rfl (by decide +kernel) ⟨Nat.le_of_ble_eq_true rfl, Nat.le_of_ble_eq_true rfl⟩) ⟨mR_b, va_recv hK hPm (ci := 5) (q0 := 0) rfl rfl, (mR_p hPm hK trivial).2⟩ rfl rfl hl.1 rfl (lv_room (Nat.le_of_ble_eq_true rfl)) dL_law_237 ⟨Nat.le_refl _, Nat.le_refl _⟩) ok hPb hS (fun H locs hPb hPm hS => ?_)
  refine lv_icmp_eq (tgt := 657) hx hb dL_law_240 (by decide) (fun _ => ?_) (fun cn => absurd rfl cn)
  exact k657 u v F1 G1 M1 N1 _ _ hRl ok hPb hPm hS ls hl
set_option maxHeartbeats 4000000 in
set_option maxRecDepth 100000 in
theorem law_colour {p : Program} {l : Launch} {e : Env} {s : State} {m : MethodId} {below : List Frame} {meth : Method} {c : Code} {D : va_G} {cI cZ : ClassId} {b L : Nat} {xs : Nat → Int32} (C0 : lw_At p s m meth c b L xs) {Rl : (Nat → Int32) → (Nat → Nat → Int32) → (Nat → Int32) → (Nat → Nat → Int32) → Prop} (hRo : lh_colour Rl) (hK : va_K D vwCl [(cI, FieldType.int), (cZ, FieldType.boolean)] s) (hN : nN s) {j : Nat} (hL : L ≤ 3072) (hj : j + 6 ≤ L) (k657 : ∀ (u v : Nat → Nat) (F : Nat → Int32) (G : Nat → Nat → Int32) (M : Nat → Int32) (N : Nat → Nat → Int32) (H : Heap) (locs : List Loc), Rl F G M N → lwOK s.heap.size cI cZ u v → va_P D vwCl (bdW cI u F G) H → va_P D vwCl (mW cI cZ v M N) H → va_S (fun q => s.heap.size ≤ q) s.heap H locs → ∀ ls : Array Slot, lv_has ls 4 [(0, .ref b), (1, .ref (u 90)), (2, .ref (v 99)), (3, .int (nI j))] → W p l e room_1 s m #[Value.ref b] below meth c H locs 59 8615 (lw_Z below #[Value.ref b] s) (F0 m 657 ls [])) : ∀ (u v : Nat → Nat) (F : Nat → Int32) (G : Nat → Nat → Int32) (M : Nat → Int32) (N : Nat → Nat → Int32) (H : Heap) (locs : List Loc), Rl F G M N → lwOK s.heap.size cI cZ u v → va_P D vwCl (bdW cI u F G) H → va_P D vwCl (mW cI cZ v M N) H → va_S (fun q => s.heap.size ≤ q) s.heap H locs → ∀ ls : Array Slot, lv_has ls 4 [(0, .ref b), (1, .ref (u 90)), (2, .ref (v 99)), (3, .int (nI j))] → W p l e room_1 s m #[Value.ref b] below meth c H locs 59 8615 (lw_Z below #[Value.ref b] s) (F0 m 245 ls []) := by
  obtain ⟨hx, hb, hr, hml, hown, hts, hX, hbl, hlocks, hgv⟩ := C0
  have hbA : ¬ (fun q : Nat => s.heap.size ≤ q) b := Nat.not_le.mpr hbl
  have hK1 : va_K D vwCl [(cI, FieldType.int)] s := hK.sub [0] rfl
  intro u v F G M N H locs hRl ok hPb hPm hS ls hl
  obtain ⟨a1, e1⟩ : ∃ z : Int32, xs (nI j + 1).toNatClampNeg = z := ⟨_, rfl⟩
  have i1 : vp_in (nI j + 1) L := by rw [show nI j + 1 = nI (j + 1) from nI_add j 1]; exact vp_in_nI (by omega) (by omega)
  obtain ⟨a2, e2⟩ : ∃ z : Int32, xs (nI j + 2).toNatClampNeg = z := ⟨_, rfl⟩
  have i2 : vp_in (nI j + 2) L := by rw [show nI j + 2 = nI (j + 2) from nI_add j 2]; exact vp_in_nI (by omega) (by omega)
  obtain ⟨a3, e3⟩ : ∃ z : Int32, xs (nI j + 3).toNatClampNeg = z := ⟨_, rfl⟩
  have i3 : vp_in (nI j + 3) L := by rw [show nI j + 3 = nI (j + 3) from nI_add j 3]; exact vp_in_nI (by omega) (by omega)
  obtain ⟨a4, e4⟩ : ∃ z : Int32, xs (nI j + 4).toNatClampNeg = z := ⟨_, rfl⟩
  have i4 : vp_in (nI j + 4) L := by rw [show nI j + 4 = nI (j + 4) from nI_add j 4]; exact vp_in_nI (by omega) (by omega)
  obtain ⟨r, F1, G1, M1, N1, h1, h2, hRl⟩ := hRo F G M N hRl a1 a2 a3 a4
  refine lv_aload_n hx hb dL_law_245 rfl (lv_at hl 1 rfl) ?_
  refine lv_aload_n hx hb dL_law_246 rfl (lv_at hl 0 rfl) ?_
  refine lv_iload_n hx hb dL_law_247 rfl (lv_at hl 3 rfl) ?_
  refine lv_iconst (v := 1) hx hb dL_law_248 (by decide) ?_
  refine lv_iadd hx hb dL_law_249 ?_
  refine q_sld hx hb hX hbl hbA hS i1 e1 dL_law_250 ?_
  refine lv_aload_n hx hb dL_law_251 rfl (lv_at hl 0 rfl) ?_
  refine lv_iload_n hx hb dL_law_252 rfl (lv_at hl 3 rfl) ?_
  refine lv_iconst (v := 2) hx hb dL_law_253 (by decide) ?_
  refine lv_iadd hx hb dL_law_254 ?_
  refine q_sld hx hb hX hbl hbA hS i2 e2 dL_law_255 ?_
  refine lv_aload_n hx hb dL_law_256 rfl (lv_at hl 0 rfl) ?_
  refine lv_iload_n hx hb dL_law_257 rfl (lv_at hl 3 rfl) ?_
  refine lv_iconst (v := 3) hx hb dL_law_258 (by decide) ?_
  refine lv_iadd hx hb dL_law_259 ?_
  refine q_sld hx hb hX hbl hbA hS i3 e3 dL_law_260 ?_
  refine lv_aload_n hx hb dL_law_261 rfl (lv_at hl 0 rfl) ?_
  refine lv_iload_n hx hb dL_law_262 rfl (lv_at hl 3 rfl) ?_
  refine lv_iconst (v := 4) hx hb dL_law_263 (by decide) ?_
  refine lv_iadd hx hb dL_law_264 ?_
  refine q_sld hx hb hX hbl hbA hS i4 e4 dL_law_265 ?_
  refine lw_cb (va_runV (C := RX4) (As := [.int a1, .int a2, .int a3, .int a4]) (rest := []) ⟨hx, hb, hml, hown, hts⟩ (mt_X4_colour l D cI u F G a1 a2 a3 a4 r F1 G1 ok.1 h1) (cwV 4 hts lV_X4_colour rfl rfl rfl (by decide +kernel) ⟨Nat.le_of_ble_eq_true rfl, Nat.le_of_ble_eq_true rfl⟩) ⟨bdR_b, va_recv hK1 hPb (ci := 4) (q0 := 0) rfl rfl, (bdR_p hPb hK1 hN).2⟩ rfl rfl hl.1 rfl (lv_room (Nat.le_of_ble_eq_true rfl)) dL_law_266 ⟨Nat.le_refl _, Nat.le_refl _⟩) ok hPm hS (fun H locs hPb hPm hS => ?_)
  refine lv_aload_n hx hb dL_law_269 rfl (lv_at hl 2 rfl) ?_
  refine lv_aload_n hx hb dL_law_270 rfl (lv_at hl 0 rfl) ?_
  refine lv_iload_n hx hb dL_law_271 rfl (lv_at hl 3 rfl) ?_
  refine lv_iconst (v := 1) hx hb dL_law_272 (by decide) ?_
  refine lv_iadd hx hb dL_law_273 ?_
  refine q_sld hx hb hX hbl hbA hS i1 e1 dL_law_274 ?_
  refine lv_aload_n hx hb dL_law_275 rfl (lv_at hl 0 rfl) ?_
  refine lv_iload_n hx hb dL_law_276 rfl (lv_at hl 3 rfl) ?_
  refine lv_iconst (v := 2) hx hb dL_law_277 (by decide) ?_
  refine lv_iadd hx hb dL_law_278 ?_
  refine q_sld hx hb hX hbl hbA hS i2 e2 dL_law_279 ?_
  refine lv_aload_n hx hb dL_law_280 rfl (lv_at hl 0 rfl) ?_
  refine lv_iload_n hx hb dL_law_281 rfl (lv_at hl 3 rfl) ?_
  refine lv_iconst (v := 3) hx hb dL_law_282 (by decide) ?_
  refine lv_iadd hx hb dL_law_283 ?_
  refine q_sld hx hb hX hbl hbA hS i3 e3 dL_law_284 ?_
  refine lv_aload_n hx hb dL_law_285 rfl (lv_at hl 0 rfl) ?_
  refine lv_iload_n hx hb dL_law_286 rfl (lv_at hl 3 rfl) ?_
  refine lv_iconst (v := 4) hx hb dL_law_287 (by decide) ?_
  refine lv_iadd hx hb dL_law_288 ?_
  refine q_sld hx hb hX hbl hbA hS i4 e4 dL_law_289 ?_
  refine lw_cm (va_runV (C := RX5) (As := [.int a1, .int a2, .int a3, .int a4]) (rest := [.int r]) ⟨hx, hb, hml, hown, hts⟩ (mt_X5_colour l D cI cZ v M N a1 a2 a3 a4 r M1 N1 ok.2.1 h2) (cwV 4 hts lV_X5_colour rfl rfl rfl (by decide +kernel) ⟨Nat.le_of_ble_eq_true rfl, Nat.le_of_ble_eq_true rfl⟩) ⟨mR_b, va_recv hK hPm (ci := 5) (q0 := 0) rfl rfl, (mR_p hPm hK trivial).2⟩ rfl rfl hl.1 rfl (lv_room (Nat.le_of_ble_eq_true rfl)) dL_law_290 ⟨Nat.le_refl _, Nat.le_refl _⟩) ok hPb hS (fun H locs hPb hPm hS => ?_)
  refine lv_icmp_eq (tgt := 657) hx hb dL_law_293 (by decide) (fun _ => ?_) (fun cn => absurd rfl cn)
  exact k657 u v F1 G1 M1 N1 _ _ hRl ok hPb hPm hS ls hl
set_option maxHeartbeats 4000000 in
set_option maxRecDepth 100000 in
theorem law_thread {p : Program} {l : Launch} {e : Env} {s : State} {m : MethodId} {below : List Frame} {meth : Method} {c : Code} {D : va_G} {cI cZ : ClassId} {b L : Nat} {xs : Nat → Int32} (C0 : lw_At p s m meth c b L xs) {Rl : (Nat → Int32) → (Nat → Nat → Int32) → (Nat → Int32) → (Nat → Nat → Int32) → Prop} (hRo : lh_thread Rl) (hK : va_K D vwCl [(cI, FieldType.int), (cZ, FieldType.boolean)] s) (hN : nN s) {j : Nat} (hL : L ≤ 3072) (hj : j + 6 ≤ L) (k657 : ∀ (u v : Nat → Nat) (F : Nat → Int32) (G : Nat → Nat → Int32) (M : Nat → Int32) (N : Nat → Nat → Int32) (H : Heap) (locs : List Loc), Rl F G M N → lwOK s.heap.size cI cZ u v → va_P D vwCl (bdW cI u F G) H → va_P D vwCl (mW cI cZ v M N) H → va_S (fun q => s.heap.size ≤ q) s.heap H locs → ∀ ls : Array Slot, lv_has ls 4 [(0, .ref b), (1, .ref (u 90)), (2, .ref (v 99)), (3, .int (nI j))] → W p l e room_1 s m #[Value.ref b] below meth c H locs 59 8615 (lw_Z below #[Value.ref b] s) (F0 m 657 ls [])) : ∀ (u v : Nat → Nat) (F : Nat → Int32) (G : Nat → Nat → Int32) (M : Nat → Int32) (N : Nat → Nat → Int32) (H : Heap) (locs : List Loc), Rl F G M N → lwOK s.heap.size cI cZ u v → va_P D vwCl (bdW cI u F G) H → va_P D vwCl (mW cI cZ v M N) H → va_S (fun q => s.heap.size ≤ q) s.heap H locs → ∀ ls : Array Slot, lv_has ls 4 [(0, .ref b), (1, .ref (u 90)), (2, .ref (v 99)), (3, .int (nI j))] → W p l e room_1 s m #[Value.ref b] below meth c H locs 59 8615 (lw_Z below #[Value.ref b] s) (F0 m 298 ls []) := by
  obtain ⟨hx, hb, hr, hml, hown, hts, hX, hbl, hlocks, hgv⟩ := C0
  have hbA : ¬ (fun q : Nat => s.heap.size ≤ q) b := Nat.not_le.mpr hbl
  have hK1 : va_K D vwCl [(cI, FieldType.int)] s := hK.sub [0] rfl
  intro u v F G M N H locs hRl ok hPb hPm hS ls hl
  obtain ⟨a1, e1⟩ : ∃ z : Int32, xs (nI j + 1).toNatClampNeg = z := ⟨_, rfl⟩
  have i1 : vp_in (nI j + 1) L := by rw [show nI j + 1 = nI (j + 1) from nI_add j 1]; exact vp_in_nI (by omega) (by omega)
  obtain ⟨a2, e2⟩ : ∃ z : Int32, xs (nI j + 2).toNatClampNeg = z := ⟨_, rfl⟩
  have i2 : vp_in (nI j + 2) L := by rw [show nI j + 2 = nI (j + 2) from nI_add j 2]; exact vp_in_nI (by omega) (by omega)
  obtain ⟨r, F1, G1, M1, N1, h1, h2, hRl⟩ := hRo F G M N hRl a1 a2
  refine lv_aload_n hx hb dL_law_298 rfl (lv_at hl 1 rfl) ?_
  refine lv_aload_n hx hb dL_law_299 rfl (lv_at hl 0 rfl) ?_
  refine lv_iload_n hx hb dL_law_300 rfl (lv_at hl 3 rfl) ?_
  refine lv_iconst (v := 1) hx hb dL_law_301 (by decide) ?_
  refine lv_iadd hx hb dL_law_302 ?_
  refine q_sld hx hb hX hbl hbA hS i1 e1 dL_law_303 ?_
  refine lv_aload_n hx hb dL_law_304 rfl (lv_at hl 0 rfl) ?_
  refine lv_iload_n hx hb dL_law_305 rfl (lv_at hl 3 rfl) ?_
  refine lv_iconst (v := 2) hx hb dL_law_306 (by decide) ?_
  refine lv_iadd hx hb dL_law_307 ?_
  refine q_sld hx hb hX hbl hbA hS i2 e2 dL_law_308 ?_
  refine lw_cb (va_runV (C := RX4) (As := [.int a1, .int a2]) (rest := []) ⟨hx, hb, hml, hown, hts⟩ (mt_X4_thread l D cI u F G a1 a2 r F1 G1 ok.1 h1) (cwV 2 hts lV_X4_thread rfl rfl rfl (by decide +kernel) ⟨Nat.le_of_ble_eq_true rfl, Nat.le_of_ble_eq_true rfl⟩) ⟨bdR_b, va_recv hK1 hPb (ci := 4) (q0 := 0) rfl rfl, (bdR_p hPb hK1 hN).2⟩ rfl rfl hl.1 rfl (lv_room (Nat.le_of_ble_eq_true rfl)) dL_law_309 ⟨Nat.le_refl _, Nat.le_refl _⟩) ok hPm hS (fun H locs hPb hPm hS => ?_)
  refine lv_aload_n hx hb dL_law_312 rfl (lv_at hl 2 rfl) ?_
  refine lv_aload_n hx hb dL_law_313 rfl (lv_at hl 0 rfl) ?_
  refine lv_iload_n hx hb dL_law_314 rfl (lv_at hl 3 rfl) ?_
  refine lv_iconst (v := 1) hx hb dL_law_315 (by decide) ?_
  refine lv_iadd hx hb dL_law_316 ?_
  refine q_sld hx hb hX hbl hbA hS i1 e1 dL_law_317 ?_
  refine lv_aload_n hx hb dL_law_318 rfl (lv_at hl 0 rfl) ?_
  refine lv_iload_n hx hb dL_law_319 rfl (lv_at hl 3 rfl) ?_
  refine lv_iconst (v := 2) hx hb dL_law_320 (by decide) ?_
  refine lv_iadd hx hb dL_law_321 ?_
  refine q_sld hx hb hX hbl hbA hS i2 e2 dL_law_322 ?_
  refine lw_cm (va_runV (C := RX5) (As := [.int a1, .int a2]) (rest := [.int r]) ⟨hx, hb, hml, hown, hts⟩ (mt_X5_thread l D cI cZ v M N a1 a2 r M1 N1 ok.2.1 h2) (cwV 2 hts lV_X5_thread rfl rfl rfl (by decide +kernel) ⟨Nat.le_of_ble_eq_true rfl, Nat.le_of_ble_eq_true rfl⟩) ⟨mR_b, va_recv hK hPm (ci := 5) (q0 := 0) rfl rfl, (mR_p hPm hK trivial).2⟩ rfl rfl hl.1 rfl (lv_room (Nat.le_of_ble_eq_true rfl)) dL_law_323 ⟨Nat.le_refl _, Nat.le_refl _⟩) ok hPb hS (fun H locs hPb hPm hS => ?_)
  refine lv_icmp_eq (tgt := 657) hx hb dL_law_326 (by decide) (fun _ => ?_) (fun cn => absurd rfl cn)
  exact k657 u v F1 G1 M1 N1 _ _ hRl ok hPb hPm hS ls hl
set_option maxHeartbeats 4000000 in
set_option maxRecDepth 100000 in
theorem law_cell {p : Program} {l : Launch} {e : Env} {s : State} {m : MethodId} {below : List Frame} {meth : Method} {c : Code} {D : va_G} {cI cZ : ClassId} {b L : Nat} {xs : Nat → Int32} (C0 : lw_At p s m meth c b L xs) {Rl : (Nat → Int32) → (Nat → Nat → Int32) → (Nat → Int32) → (Nat → Nat → Int32) → Prop} (hRo : lh_cell Rl) (hK : va_K D vwCl [(cI, FieldType.int), (cZ, FieldType.boolean)] s) (hN : nN s) {j : Nat} (hL : L ≤ 3072) (hj : j + 6 ≤ L) (k657 : ∀ (u v : Nat → Nat) (F : Nat → Int32) (G : Nat → Nat → Int32) (M : Nat → Int32) (N : Nat → Nat → Int32) (H : Heap) (locs : List Loc), Rl F G M N → lwOK s.heap.size cI cZ u v → va_P D vwCl (bdW cI u F G) H → va_P D vwCl (mW cI cZ v M N) H → va_S (fun q => s.heap.size ≤ q) s.heap H locs → ∀ ls : Array Slot, lv_has ls 4 [(0, .ref b), (1, .ref (u 90)), (2, .ref (v 99)), (3, .int (nI j))] → W p l e room_1 s m #[Value.ref b] below meth c H locs 59 8615 (lw_Z below #[Value.ref b] s) (F0 m 657 ls [])) : ∀ (u v : Nat → Nat) (F : Nat → Int32) (G : Nat → Nat → Int32) (M : Nat → Int32) (N : Nat → Nat → Int32) (H : Heap) (locs : List Loc), Rl F G M N → lwOK s.heap.size cI cZ u v → va_P D vwCl (bdW cI u F G) H → va_P D vwCl (mW cI cZ v M N) H → va_S (fun q => s.heap.size ≤ q) s.heap H locs → ∀ ls : Array Slot, lv_has ls 4 [(0, .ref b), (1, .ref (u 90)), (2, .ref (v 99)), (3, .int (nI j))] → W p l e room_1 s m #[Value.ref b] below meth c H locs 59 8615 (lw_Z below #[Value.ref b] s) (F0 m 331 ls []) := by
  obtain ⟨hx, hb, hr, hml, hown, hts, hX, hbl, hlocks, hgv⟩ := C0
  have hbA : ¬ (fun q : Nat => s.heap.size ≤ q) b := Nat.not_le.mpr hbl
  have hK1 : va_K D vwCl [(cI, FieldType.int)] s := hK.sub [0] rfl
  intro u v F G M N H locs hRl ok hPb hPm hS ls hl
  obtain ⟨a1, e1⟩ : ∃ z : Int32, xs (nI j + 1).toNatClampNeg = z := ⟨_, rfl⟩
  have i1 : vp_in (nI j + 1) L := by rw [show nI j + 1 = nI (j + 1) from nI_add j 1]; exact vp_in_nI (by omega) (by omega)
  obtain ⟨a2, e2⟩ : ∃ z : Int32, xs (nI j + 2).toNatClampNeg = z := ⟨_, rfl⟩
  have i2 : vp_in (nI j + 2) L := by rw [show nI j + 2 = nI (j + 2) from nI_add j 2]; exact vp_in_nI (by omega) (by omega)
  obtain ⟨r, h1, h2⟩ := hRo F G M N hRl a1 a2
  refine lv_aload_n hx hb dL_law_331 rfl (lv_at hl 1 rfl) ?_
  refine lv_aload_n hx hb dL_law_332 rfl (lv_at hl 0 rfl) ?_
  refine lv_iload_n hx hb dL_law_333 rfl (lv_at hl 3 rfl) ?_
  refine lv_iconst (v := 1) hx hb dL_law_334 (by decide) ?_
  refine lv_iadd hx hb dL_law_335 ?_
  refine q_sld hx hb hX hbl hbA hS i1 e1 dL_law_336 ?_
  refine lv_aload_n hx hb dL_law_337 rfl (lv_at hl 0 rfl) ?_
  refine lv_iload_n hx hb dL_law_338 rfl (lv_at hl 3 rfl) ?_
  refine lv_iconst (v := 2) hx hb dL_law_339 (by decide) ?_
  refine lv_iadd hx hb dL_law_340 ?_
  refine q_sld hx hb hX hbl hbA hS i2 e2 dL_law_341 ?_
  refine q_cs (W.runV (C := RX4) (As := [.int a1, .int a2]) (rest := []) ⟨hx, hb, hml, hown, hts⟩ (mt_X4_cell l D cI u F G a1 a2 r h1) (cwV 2 hts lV_X4_cell rfl rfl rfl (by decide +kernel) ⟨Nat.le_of_ble_eq_true rfl, Nat.le_of_ble_eq_true rfl⟩) ⟨bdR_b, va_recv hK1 hPb (ci := 4) (q0 := 0) rfl rfl, (bdR_p hPb hK1 hN).2⟩ rfl rfl hl.1 rfl (lv_room (Nat.le_of_ble_eq_true rfl)) dL_law_342 ⟨Nat.le_refl _, Nat.le_refl _⟩) ?_
  refine lv_aload_n hx hb dL_law_345 rfl (lv_at hl 2 rfl) ?_
  refine lv_aload_n hx hb dL_law_346 rfl (lv_at hl 0 rfl) ?_
  refine lv_iload_n hx hb dL_law_347 rfl (lv_at hl 3 rfl) ?_
  refine lv_iconst (v := 1) hx hb dL_law_348 (by decide) ?_
  refine lv_iadd hx hb dL_law_349 ?_
  refine q_sld hx hb hX hbl hbA hS i1 e1 dL_law_350 ?_
  refine lv_aload_n hx hb dL_law_351 rfl (lv_at hl 0 rfl) ?_
  refine lv_iload_n hx hb dL_law_352 rfl (lv_at hl 3 rfl) ?_
  refine lv_iconst (v := 2) hx hb dL_law_353 (by decide) ?_
  refine lv_iadd hx hb dL_law_354 ?_
  refine q_sld hx hb hX hbl hbA hS i2 e2 dL_law_355 ?_
  refine q_cs (W.runV (C := RX5) (As := [.int a1, .int a2]) (rest := [.int r]) ⟨hx, hb, hml, hown, hts⟩ (mt_X5_cell l D cI cZ v M N a1 a2 r h2) (cwV 2 hts lV_X5_cell rfl rfl rfl (by decide +kernel) ⟨Nat.le_of_ble_eq_true rfl, Nat.le_of_ble_eq_true rfl⟩) ⟨mR_b, va_recv hK hPm (ci := 5) (q0 := 0) rfl rfl, (mR_p hPm hK trivial).2⟩ rfl rfl hl.1 rfl (lv_room (Nat.le_of_ble_eq_true rfl)) dL_law_356 ⟨Nat.le_refl _, Nat.le_refl _⟩) ?_
  refine lv_icmp_eq (tgt := 657) hx hb dL_law_359 (by decide) (fun _ => ?_) (fun cn => absurd rfl cn)
  exact k657 u v F G M N _ _ hRl ok hPb hPm hS ls hl
set_option maxHeartbeats 4000000 in
set_option maxRecDepth 100000 in
theorem law_work {p : Program} {l : Launch} {e : Env} {s : State} {m : MethodId} {below : List Frame} {meth : Method} {c : Code} {D : va_G} {cI cZ : ClassId} {b L : Nat} {xs : Nat → Int32} (C0 : lw_At p s m meth c b L xs) {Rl : (Nat → Int32) → (Nat → Nat → Int32) → (Nat → Int32) → (Nat → Nat → Int32) → Prop} (hRo : lh_work Rl) (hK : va_K D vwCl [(cI, FieldType.int), (cZ, FieldType.boolean)] s) (hN : nN s) {j : Nat} (hL : L ≤ 3072) (hj : j + 6 ≤ L) (k657 : ∀ (u v : Nat → Nat) (F : Nat → Int32) (G : Nat → Nat → Int32) (M : Nat → Int32) (N : Nat → Nat → Int32) (H : Heap) (locs : List Loc), Rl F G M N → lwOK s.heap.size cI cZ u v → va_P D vwCl (bdW cI u F G) H → va_P D vwCl (mW cI cZ v M N) H → va_S (fun q => s.heap.size ≤ q) s.heap H locs → ∀ ls : Array Slot, lv_has ls 4 [(0, .ref b), (1, .ref (u 90)), (2, .ref (v 99)), (3, .int (nI j))] → W p l e room_1 s m #[Value.ref b] below meth c H locs 59 8615 (lw_Z below #[Value.ref b] s) (F0 m 657 ls [])) : ∀ (u v : Nat → Nat) (F : Nat → Int32) (G : Nat → Nat → Int32) (M : Nat → Int32) (N : Nat → Nat → Int32) (H : Heap) (locs : List Loc), Rl F G M N → lwOK s.heap.size cI cZ u v → va_P D vwCl (bdW cI u F G) H → va_P D vwCl (mW cI cZ v M N) H → va_S (fun q => s.heap.size ≤ q) s.heap H locs → ∀ ls : Array Slot, lv_has ls 4 [(0, .ref b), (1, .ref (u 90)), (2, .ref (v 99)), (3, .int (nI j))] → W p l e room_1 s m #[Value.ref b] below meth c H locs 59 8615 (lw_Z below #[Value.ref b] s) (F0 m 364 ls []) := by
  obtain ⟨hx, hb, hr, hml, hown, hts, hX, hbl, hlocks, hgv⟩ := C0
  have hbA : ¬ (fun q : Nat => s.heap.size ≤ q) b := Nat.not_le.mpr hbl
  have hK1 : va_K D vwCl [(cI, FieldType.int)] s := hK.sub [0] rfl
  intro u v F G M N H locs hRl ok hPb hPm hS ls hl
  obtain ⟨a1, e1⟩ : ∃ z : Int32, xs (nI j + 1).toNatClampNeg = z := ⟨_, rfl⟩
  have i1 : vp_in (nI j + 1) L := by rw [show nI j + 1 = nI (j + 1) from nI_add j 1]; exact vp_in_nI (by omega) (by omega)
  obtain ⟨r, F1, G1, M1, N1, h1, h2, hRl⟩ := hRo F G M N hRl a1
  refine lv_aload_n hx hb dL_law_364 rfl (lv_at hl 1 rfl) ?_
  refine lv_aload_n hx hb dL_law_365 rfl (lv_at hl 0 rfl) ?_
  refine lv_iload_n hx hb dL_law_366 rfl (lv_at hl 3 rfl) ?_
  refine lv_iconst (v := 1) hx hb dL_law_367 (by decide) ?_
  refine lv_iadd hx hb dL_law_368 ?_
  refine q_sld hx hb hX hbl hbA hS i1 e1 dL_law_369 ?_
  refine lw_cb (va_runV (C := RX4) (As := [.int a1]) (rest := []) ⟨hx, hb, hml, hown, hts⟩ (mt_X4_work l D cI u F G a1 r F1 G1 ok.1 h1) (cwV 1 hts lV_X4_work rfl rfl rfl (by decide +kernel) ⟨Nat.le_of_ble_eq_true rfl, Nat.le_of_ble_eq_true rfl⟩) ⟨bdR_b, va_recv hK1 hPb (ci := 4) (q0 := 0) rfl rfl, (bdR_p hPb hK1 hN).2⟩ rfl rfl hl.1 rfl (lv_room (Nat.le_of_ble_eq_true rfl)) dL_law_370 ⟨Nat.le_refl _, Nat.le_refl _⟩) ok hPm hS (fun H locs hPb hPm hS => ?_)
  refine lv_aload_n hx hb dL_law_373 rfl (lv_at hl 2 rfl) ?_
  refine lv_aload_n hx hb dL_law_374 rfl (lv_at hl 0 rfl) ?_
  refine lv_iload_n hx hb dL_law_375 rfl (lv_at hl 3 rfl) ?_
  refine lv_iconst (v := 1) hx hb dL_law_376 (by decide) ?_
  refine lv_iadd hx hb dL_law_377 ?_
  refine q_sld hx hb hX hbl hbA hS i1 e1 dL_law_378 ?_
  refine lw_cm (va_runV (C := RX5) (As := [.int a1]) (rest := [.int r]) ⟨hx, hb, hml, hown, hts⟩ (mt_X5_work l D cI cZ v M N a1 r M1 N1 ok.2.1 h2) (cwV 1 hts lV_X5_work rfl rfl rfl (by decide +kernel) ⟨Nat.le_of_ble_eq_true rfl, Nat.le_of_ble_eq_true rfl⟩) ⟨mR_b, va_recv hK hPm (ci := 5) (q0 := 0) rfl rfl, (mR_p hPm hK trivial).2⟩ rfl rfl hl.1 rfl (lv_room (Nat.le_of_ble_eq_true rfl)) dL_law_379 ⟨Nat.le_refl _, Nat.le_refl _⟩) ok hPb hS (fun H locs hPb hPm hS => ?_)
  refine lv_icmp_eq (tgt := 657) hx hb dL_law_382 (by decide) (fun _ => ?_) (fun cn => absurd rfl cn)
  exact k657 u v F1 G1 M1 N1 _ _ hRl ok hPb hPm hS ls hl
set_option maxHeartbeats 4000000 in
set_option maxRecDepth 100000 in
theorem law_worked {p : Program} {l : Launch} {e : Env} {s : State} {m : MethodId} {below : List Frame} {meth : Method} {c : Code} {D : va_G} {cI cZ : ClassId} {b L : Nat} {xs : Nat → Int32} (C0 : lw_At p s m meth c b L xs) {Rl : (Nat → Int32) → (Nat → Nat → Int32) → (Nat → Int32) → (Nat → Nat → Int32) → Prop} (hRo : lh_worked Rl) (hK : va_K D vwCl [(cI, FieldType.int), (cZ, FieldType.boolean)] s) (hN : nN s) {j : Nat} (hL : L ≤ 3072) (hj : j + 6 ≤ L) (k657 : ∀ (u v : Nat → Nat) (F : Nat → Int32) (G : Nat → Nat → Int32) (M : Nat → Int32) (N : Nat → Nat → Int32) (H : Heap) (locs : List Loc), Rl F G M N → lwOK s.heap.size cI cZ u v → va_P D vwCl (bdW cI u F G) H → va_P D vwCl (mW cI cZ v M N) H → va_S (fun q => s.heap.size ≤ q) s.heap H locs → ∀ ls : Array Slot, lv_has ls 4 [(0, .ref b), (1, .ref (u 90)), (2, .ref (v 99)), (3, .int (nI j))] → W p l e room_1 s m #[Value.ref b] below meth c H locs 59 8615 (lw_Z below #[Value.ref b] s) (F0 m 657 ls [])) : ∀ (u v : Nat → Nat) (F : Nat → Int32) (G : Nat → Nat → Int32) (M : Nat → Int32) (N : Nat → Nat → Int32) (H : Heap) (locs : List Loc), Rl F G M N → lwOK s.heap.size cI cZ u v → va_P D vwCl (bdW cI u F G) H → va_P D vwCl (mW cI cZ v M N) H → va_S (fun q => s.heap.size ≤ q) s.heap H locs → ∀ ls : Array Slot, lv_has ls 4 [(0, .ref b), (1, .ref (u 90)), (2, .ref (v 99)), (3, .int (nI j))] → W p l e room_1 s m #[Value.ref b] below meth c H locs 59 8615 (lw_Z below #[Value.ref b] s) (F0 m 387 ls []) := by
  obtain ⟨hx, hb, hr, hml, hown, hts, hX, hbl, hlocks, hgv⟩ := C0
  have hbA : ¬ (fun q : Nat => s.heap.size ≤ q) b := Nat.not_le.mpr hbl
  have hK1 : va_K D vwCl [(cI, FieldType.int)] s := hK.sub [0] rfl
  intro u v F G M N H locs hRl ok hPb hPm hS ls hl
  obtain ⟨a1, e1⟩ : ∃ z : Int32, xs (nI j + 1).toNatClampNeg = z := ⟨_, rfl⟩
  have i1 : vp_in (nI j + 1) L := by rw [show nI j + 1 = nI (j + 1) from nI_add j 1]; exact vp_in_nI (by omega) (by omega)
  obtain ⟨r, h1, h2⟩ := hRo F G M N hRl a1
  refine lv_aload_n hx hb dL_law_387 rfl (lv_at hl 1 rfl) ?_
  refine lv_aload_n hx hb dL_law_388 rfl (lv_at hl 0 rfl) ?_
  refine lv_iload_n hx hb dL_law_389 rfl (lv_at hl 3 rfl) ?_
  refine lv_iconst (v := 1) hx hb dL_law_390 (by decide) ?_
  refine lv_iadd hx hb dL_law_391 ?_
  refine q_sld hx hb hX hbl hbA hS i1 e1 dL_law_392 ?_
  refine q_cs (W.runV (C := RX4) (As := [.int a1]) (rest := []) ⟨hx, hb, hml, hown, hts⟩ (mt_X4_worked l D cI u F G a1 r h1) (cwV 1 hts lV_X4_worked rfl rfl rfl (by decide +kernel) ⟨Nat.le_of_ble_eq_true rfl, Nat.le_of_ble_eq_true rfl⟩) ⟨bdR_b, va_recv hK1 hPb (ci := 4) (q0 := 0) rfl rfl, (bdR_p hPb hK1 hN).2⟩ rfl rfl hl.1 rfl (lv_room (Nat.le_of_ble_eq_true rfl)) dL_law_393 ⟨Nat.le_refl _, Nat.le_refl _⟩) ?_
  refine lv_aload_n hx hb dL_law_396 rfl (lv_at hl 2 rfl) ?_
  refine lv_aload_n hx hb dL_law_397 rfl (lv_at hl 0 rfl) ?_
  refine lv_iload_n hx hb dL_law_398 rfl (lv_at hl 3 rfl) ?_
  refine lv_iconst (v := 1) hx hb dL_law_399 (by decide) ?_
  refine lv_iadd hx hb dL_law_400 ?_
  refine q_sld hx hb hX hbl hbA hS i1 e1 dL_law_401 ?_
  refine q_cs (W.runV (C := RX5) (As := [.int a1]) (rest := [.int r]) ⟨hx, hb, hml, hown, hts⟩ (mt_X5_worked l D cI cZ v M N a1 r h2) (cwV 1 hts lV_X5_worked rfl rfl rfl (by decide +kernel) ⟨Nat.le_of_ble_eq_true rfl, Nat.le_of_ble_eq_true rfl⟩) ⟨mR_b, va_recv hK hPm (ci := 5) (q0 := 0) rfl rfl, (mR_p hPm hK trivial).2⟩ rfl rfl hl.1 rfl (lv_room (Nat.le_of_ble_eq_true rfl)) dL_law_402 ⟨Nat.le_refl _, Nat.le_refl _⟩) ?_
  refine lv_icmp_eq (tgt := 657) hx hb dL_law_405 (by decide) (fun _ => ?_) (fun cn => absurd rfl cn)
  exact k657 u v F G M N _ _ hRl ok hPb hPm hS ls hl
set_option maxHeartbeats 4000000 in
set_option maxRecDepth 100000 in
theorem law_picked {p : Program} {l : Launch} {e : Env} {s : State} {m : MethodId} {below : List Frame} {meth : Method} {c : Code} {D : va_G} {cI cZ : ClassId} {b L : Nat} {xs : Nat → Int32} (C0 : lw_At p s m meth c b L xs) {Rl : (Nat → Int32) → (Nat → Nat → Int32) → (Nat → Int32) → (Nat → Nat → Int32) → Prop} (hRo : lh_picked Rl) (hK : va_K D vwCl [(cI, FieldType.int), (cZ, FieldType.boolean)] s) (hN : nN s) {j : Nat} (hL : L ≤ 3072) (hj : j + 6 ≤ L) (k657 : ∀ (u v : Nat → Nat) (F : Nat → Int32) (G : Nat → Nat → Int32) (M : Nat → Int32) (N : Nat → Nat → Int32) (H : Heap) (locs : List Loc), Rl F G M N → lwOK s.heap.size cI cZ u v → va_P D vwCl (bdW cI u F G) H → va_P D vwCl (mW cI cZ v M N) H → va_S (fun q => s.heap.size ≤ q) s.heap H locs → ∀ ls : Array Slot, lv_has ls 4 [(0, .ref b), (1, .ref (u 90)), (2, .ref (v 99)), (3, .int (nI j))] → W p l e room_1 s m #[Value.ref b] below meth c H locs 59 8615 (lw_Z below #[Value.ref b] s) (F0 m 657 ls [])) : ∀ (u v : Nat → Nat) (F : Nat → Int32) (G : Nat → Nat → Int32) (M : Nat → Int32) (N : Nat → Nat → Int32) (H : Heap) (locs : List Loc), Rl F G M N → lwOK s.heap.size cI cZ u v → va_P D vwCl (bdW cI u F G) H → va_P D vwCl (mW cI cZ v M N) H → va_S (fun q => s.heap.size ≤ q) s.heap H locs → ∀ ls : Array Slot, lv_has ls 4 [(0, .ref b), (1, .ref (u 90)), (2, .ref (v 99)), (3, .int (nI j))] → W p l e room_1 s m #[Value.ref b] below meth c H locs 59 8615 (lw_Z below #[Value.ref b] s) (F0 m 410 ls []) := by
  obtain ⟨hx, hb, hr, hml, hown, hts, hX, hbl, hlocks, hgv⟩ := C0
  have hbA : ¬ (fun q : Nat => s.heap.size ≤ q) b := Nat.not_le.mpr hbl
  have hK1 : va_K D vwCl [(cI, FieldType.int)] s := hK.sub [0] rfl
  intro u v F G M N H locs hRl ok hPb hPm hS ls hl
  obtain ⟨a1, e1⟩ : ∃ z : Int32, xs (nI j + 1).toNatClampNeg = z := ⟨_, rfl⟩
  have i1 : vp_in (nI j + 1) L := by rw [show nI j + 1 = nI (j + 1) from nI_add j 1]; exact vp_in_nI (by omega) (by omega)
  obtain ⟨a2, e2⟩ : ∃ z : Int32, xs (nI j + 2).toNatClampNeg = z := ⟨_, rfl⟩
  have i2 : vp_in (nI j + 2) L := by rw [show nI j + 2 = nI (j + 2) from nI_add j 2]; exact vp_in_nI (by omega) (by omega)
  obtain ⟨r, h1, h2⟩ := hRo F G M N hRl a1 a2
  refine lv_aload_n hx hb dL_law_410 rfl (lv_at hl 1 rfl) ?_
  refine lv_aload_n hx hb dL_law_411 rfl (lv_at hl 0 rfl) ?_
  refine lv_iload_n hx hb dL_law_412 rfl (lv_at hl 3 rfl) ?_
  refine lv_iconst (v := 1) hx hb dL_law_413 (by decide) ?_
  refine lv_iadd hx hb dL_law_414 ?_
  refine q_sld hx hb hX hbl hbA hS i1 e1 dL_law_415 ?_
  refine lv_aload_n hx hb dL_law_416 rfl (lv_at hl 0 rfl) ?_
  refine lv_iload_n hx hb dL_law_417 rfl (lv_at hl 3 rfl) ?_
  refine lv_iconst (v := 2) hx hb dL_law_418 (by decide) ?_
  refine lv_iadd hx hb dL_law_419 ?_
  refine q_sld hx hb hX hbl hbA hS i2 e2 dL_law_420 ?_
  refine q_cs (W.runV (C := RX4) (As := [.int a1, .int a2]) (rest := []) ⟨hx, hb, hml, hown, hts⟩ (mt_X4_picked l D cI u F G a1 a2 r h1) (cwV 2 hts lV_X4_picked rfl rfl rfl (by decide +kernel) ⟨Nat.le_of_ble_eq_true rfl, Nat.le_of_ble_eq_true rfl⟩) ⟨bdR_b, va_recv hK1 hPb (ci := 4) (q0 := 0) rfl rfl, (bdR_p hPb hK1 hN).2⟩ rfl rfl hl.1 rfl (lv_room (Nat.le_of_ble_eq_true rfl)) dL_law_421 ⟨Nat.le_refl _, Nat.le_refl _⟩) ?_
  refine lv_aload_n hx hb dL_law_424 rfl (lv_at hl 2 rfl) ?_
  refine lv_aload_n hx hb dL_law_425 rfl (lv_at hl 0 rfl) ?_
  refine lv_iload_n hx hb dL_law_426 rfl (lv_at hl 3 rfl) ?_
  refine lv_iconst (v := 1) hx hb dL_law_427 (by decide) ?_
  refine lv_iadd hx hb dL_law_428 ?_
  refine q_sld hx hb hX hbl hbA hS i1 e1 dL_law_429 ?_
  refine lv_aload_n hx hb dL_law_430 rfl (lv_at hl 0 rfl) ?_
  refine lv_iload_n hx hb dL_law_431 rfl (lv_at hl 3 rfl) ?_
  refine lv_iconst (v := 2) hx hb dL_law_432 (by decide) ?_
  refine lv_iadd hx hb dL_law_433 ?_
  refine q_sld hx hb hX hbl hbA hS i2 e2 dL_law_434 ?_
  refine q_cs (W.runV (C := RX5) (As := [.int a1, .int a2]) (rest := [.int r]) ⟨hx, hb, hml, hown, hts⟩ (mt_X5_picked l D cI cZ v M N a1 a2 r h2) (cwV 2 hts lV_X5_picked rfl rfl rfl (by decide +kernel) ⟨Nat.le_of_ble_eq_true rfl, Nat.le_of_ble_eq_true rfl⟩) ⟨mR_b, va_recv hK hPm (ci := 5) (q0 := 0) rfl rfl, (mR_p hPm hK trivial).2⟩ rfl rfl hl.1 rfl (lv_room (Nat.le_of_ble_eq_true rfl)) dL_law_435 ⟨Nat.le_refl _, Nat.le_refl _⟩) ?_
  refine lv_icmp_eq (tgt := 657) hx hb dL_law_438 (by decide) (fun _ => ?_) (fun cn => absurd rfl cn)
  exact k657 u v F G M N _ _ hRl ok hPb hPm hS ls hl
set_option maxHeartbeats 4000000 in
set_option maxRecDepth 100000 in
theorem law_order {p : Program} {l : Launch} {e : Env} {s : State} {m : MethodId} {below : List Frame} {meth : Method} {c : Code} {D : va_G} {cI cZ : ClassId} {b L : Nat} {xs : Nat → Int32} (C0 : lw_At p s m meth c b L xs) {Rl : (Nat → Int32) → (Nat → Nat → Int32) → (Nat → Int32) → (Nat → Nat → Int32) → Prop} (hRo : lh_order Rl) (hK : va_K D vwCl [(cI, FieldType.int), (cZ, FieldType.boolean)] s) (hN : nN s) {j : Nat} (hL : L ≤ 3072) (hj : j + 6 ≤ L) (k657 : ∀ (u v : Nat → Nat) (F : Nat → Int32) (G : Nat → Nat → Int32) (M : Nat → Int32) (N : Nat → Nat → Int32) (H : Heap) (locs : List Loc), Rl F G M N → lwOK s.heap.size cI cZ u v → va_P D vwCl (bdW cI u F G) H → va_P D vwCl (mW cI cZ v M N) H → va_S (fun q => s.heap.size ≤ q) s.heap H locs → ∀ ls : Array Slot, lv_has ls 4 [(0, .ref b), (1, .ref (u 90)), (2, .ref (v 99)), (3, .int (nI j))] → W p l e room_1 s m #[Value.ref b] below meth c H locs 59 8615 (lw_Z below #[Value.ref b] s) (F0 m 657 ls [])) : ∀ (u v : Nat → Nat) (F : Nat → Int32) (G : Nat → Nat → Int32) (M : Nat → Int32) (N : Nat → Nat → Int32) (H : Heap) (locs : List Loc), Rl F G M N → lwOK s.heap.size cI cZ u v → va_P D vwCl (bdW cI u F G) H → va_P D vwCl (mW cI cZ v M N) H → va_S (fun q => s.heap.size ≤ q) s.heap H locs → ∀ ls : Array Slot, lv_has ls 4 [(0, .ref b), (1, .ref (u 90)), (2, .ref (v 99)), (3, .int (nI j))] → W p l e room_1 s m #[Value.ref b] below meth c H locs 59 8615 (lw_Z below #[Value.ref b] s) (F0 m 443 ls []) := by
  obtain ⟨hx, hb, hr, hml, hown, hts, hX, hbl, hlocks, hgv⟩ := C0
  have hbA : ¬ (fun q : Nat => s.heap.size ≤ q) b := Nat.not_le.mpr hbl
  have hK1 : va_K D vwCl [(cI, FieldType.int)] s := hK.sub [0] rfl
  intro u v F G M N H locs hRl ok hPb hPm hS ls hl
  obtain ⟨a1, e1⟩ : ∃ z : Int32, xs (nI j + 1).toNatClampNeg = z := ⟨_, rfl⟩
  have i1 : vp_in (nI j + 1) L := by rw [show nI j + 1 = nI (j + 1) from nI_add j 1]; exact vp_in_nI (by omega) (by omega)
  obtain ⟨a2, e2⟩ : ∃ z : Int32, xs (nI j + 2).toNatClampNeg = z := ⟨_, rfl⟩
  have i2 : vp_in (nI j + 2) L := by rw [show nI j + 2 = nI (j + 2) from nI_add j 2]; exact vp_in_nI (by omega) (by omega)
  obtain ⟨r, h1, h2⟩ := hRo F G M N hRl a1 a2
  refine lv_aload_n hx hb dL_law_443 rfl (lv_at hl 1 rfl) ?_
  refine lv_aload_n hx hb dL_law_444 rfl (lv_at hl 0 rfl) ?_
  refine lv_iload_n hx hb dL_law_445 rfl (lv_at hl 3 rfl) ?_
  refine lv_iconst (v := 1) hx hb dL_law_446 (by decide) ?_
  refine lv_iadd hx hb dL_law_447 ?_
  refine q_sld hx hb hX hbl hbA hS i1 e1 dL_law_448 ?_
  refine lv_aload_n hx hb dL_law_449 rfl (lv_at hl 0 rfl) ?_
  refine lv_iload_n hx hb dL_law_450 rfl (lv_at hl 3 rfl) ?_
  refine lv_iconst (v := 2) hx hb dL_law_451 (by decide) ?_
  refine lv_iadd hx hb dL_law_452 ?_
  refine q_sld hx hb hX hbl hbA hS i2 e2 dL_law_453 ?_
  refine q_cs (W.runV (C := RX4) (As := [.int a1, .int a2]) (rest := []) ⟨hx, hb, hml, hown, hts⟩ (mt_X4_order l D cI u F G a1 a2 r h1) (cwV 2 hts lV_X4_order rfl rfl rfl (by decide +kernel) ⟨Nat.le_of_ble_eq_true rfl, Nat.le_of_ble_eq_true rfl⟩) ⟨bdR_b, va_recv hK1 hPb (ci := 4) (q0 := 0) rfl rfl, (bdR_p hPb hK1 hN).2⟩ rfl rfl hl.1 rfl (lv_room (Nat.le_of_ble_eq_true rfl)) dL_law_454 ⟨Nat.le_refl _, Nat.le_refl _⟩) ?_
  refine lv_aload_n hx hb dL_law_457 rfl (lv_at hl 2 rfl) ?_
  refine lv_aload_n hx hb dL_law_458 rfl (lv_at hl 0 rfl) ?_
  refine lv_iload_n hx hb dL_law_459 rfl (lv_at hl 3 rfl) ?_
  refine lv_iconst (v := 1) hx hb dL_law_460 (by decide) ?_
  refine lv_iadd hx hb dL_law_461 ?_
  refine q_sld hx hb hX hbl hbA hS i1 e1 dL_law_462 ?_
  refine lv_aload_n hx hb dL_law_463 rfl (lv_at hl 0 rfl) ?_
  refine lv_iload_n hx hb dL_law_464 rfl (lv_at hl 3 rfl) ?_
  refine lv_iconst (v := 2) hx hb dL_law_465 (by decide) ?_
  refine lv_iadd hx hb dL_law_466 ?_
  refine q_sld hx hb hX hbl hbA hS i2 e2 dL_law_467 ?_
  refine q_cs (W.runV (C := RX5) (As := [.int a1, .int a2]) (rest := [.int r]) ⟨hx, hb, hml, hown, hts⟩ (mt_X5_order l D cI cZ v M N a1 a2 r h2) (cwV 2 hts lV_X5_order rfl rfl rfl (by decide +kernel) ⟨Nat.le_of_ble_eq_true rfl, Nat.le_of_ble_eq_true rfl⟩) ⟨mR_b, va_recv hK hPm (ci := 5) (q0 := 0) rfl rfl, (mR_p hPm hK trivial).2⟩ rfl rfl hl.1 rfl (lv_room (Nat.le_of_ble_eq_true rfl)) dL_law_468 ⟨Nat.le_refl _, Nat.le_refl _⟩) ?_
  refine lv_icmp_eq (tgt := 657) hx hb dL_law_471 (by decide) (fun _ => ?_) (fun cn => absurd rfl cn)
  exact k657 u v F G M N _ _ hRl ok hPb hPm hS ls hl
set_option maxHeartbeats 4000000 in
set_option maxRecDepth 100000 in
theorem law_hang {p : Program} {l : Launch} {e : Env} {s : State} {m : MethodId} {below : List Frame} {meth : Method} {c : Code} {D : va_G} {cI cZ : ClassId} {b L : Nat} {xs : Nat → Int32} (C0 : lw_At p s m meth c b L xs) {Rl : (Nat → Int32) → (Nat → Nat → Int32) → (Nat → Int32) → (Nat → Nat → Int32) → Prop} (hRo : lh_hang Rl) (hK : va_K D vwCl [(cI, FieldType.int), (cZ, FieldType.boolean)] s) (hN : nN s) {j : Nat} (hL : L ≤ 3072) (hj : j + 6 ≤ L) (k657 : ∀ (u v : Nat → Nat) (F : Nat → Int32) (G : Nat → Nat → Int32) (M : Nat → Int32) (N : Nat → Nat → Int32) (H : Heap) (locs : List Loc), Rl F G M N → lwOK s.heap.size cI cZ u v → va_P D vwCl (bdW cI u F G) H → va_P D vwCl (mW cI cZ v M N) H → va_S (fun q => s.heap.size ≤ q) s.heap H locs → ∀ ls : Array Slot, lv_has ls 4 [(0, .ref b), (1, .ref (u 90)), (2, .ref (v 99)), (3, .int (nI j))] → W p l e room_1 s m #[Value.ref b] below meth c H locs 59 8615 (lw_Z below #[Value.ref b] s) (F0 m 657 ls [])) : ∀ (u v : Nat → Nat) (F : Nat → Int32) (G : Nat → Nat → Int32) (M : Nat → Int32) (N : Nat → Nat → Int32) (H : Heap) (locs : List Loc), Rl F G M N → lwOK s.heap.size cI cZ u v → va_P D vwCl (bdW cI u F G) H → va_P D vwCl (mW cI cZ v M N) H → va_S (fun q => s.heap.size ≤ q) s.heap H locs → ∀ ls : Array Slot, lv_has ls 4 [(0, .ref b), (1, .ref (u 90)), (2, .ref (v 99)), (3, .int (nI j))] → W p l e room_1 s m #[Value.ref b] below meth c H locs 59 8615 (lw_Z below #[Value.ref b] s) (F0 m 476 ls []) := by
  obtain ⟨hx, hb, hr, hml, hown, hts, hX, hbl, hlocks, hgv⟩ := C0
  have hbA : ¬ (fun q : Nat => s.heap.size ≤ q) b := Nat.not_le.mpr hbl
  have hK1 : va_K D vwCl [(cI, FieldType.int)] s := hK.sub [0] rfl
  intro u v F G M N H locs hRl ok hPb hPm hS ls hl
  obtain ⟨a1, e1⟩ : ∃ z : Int32, xs (nI j + 1).toNatClampNeg = z := ⟨_, rfl⟩
  have i1 : vp_in (nI j + 1) L := by rw [show nI j + 1 = nI (j + 1) from nI_add j 1]; exact vp_in_nI (by omega) (by omega)
  obtain ⟨r, F1, G1, M1, N1, h1, h2, hRl⟩ := hRo F G M N hRl a1
  refine lv_aload_n hx hb dL_law_476 rfl (lv_at hl 1 rfl) ?_
  refine lv_aload_n hx hb dL_law_477 rfl (lv_at hl 0 rfl) ?_
  refine lv_iload_n hx hb dL_law_478 rfl (lv_at hl 3 rfl) ?_
  refine lv_iconst (v := 1) hx hb dL_law_479 (by decide) ?_
  refine lv_iadd hx hb dL_law_480 ?_
  refine q_sld hx hb hX hbl hbA hS i1 e1 dL_law_481 ?_
  refine lw_cb (va_runV (C := RX4) (As := [.int a1]) (rest := []) ⟨hx, hb, hml, hown, hts⟩ (mt_X4_hang l D cI u F G a1 r F1 G1 ok.1 h1) (cwV 1 hts lV_X4_hang rfl rfl rfl (by decide +kernel) ⟨Nat.le_of_ble_eq_true rfl, Nat.le_of_ble_eq_true rfl⟩) ⟨bdR_b, va_recv hK1 hPb (ci := 4) (q0 := 0) rfl rfl, (bdR_p hPb hK1 hN).2⟩ rfl rfl hl.1 rfl (lv_room (Nat.le_of_ble_eq_true rfl)) dL_law_482 ⟨Nat.le_refl _, Nat.le_refl _⟩) ok hPm hS (fun H locs hPb hPm hS => ?_)
  refine lv_aload_n hx hb dL_law_485 rfl (lv_at hl 2 rfl) ?_
  refine lv_aload_n hx hb dL_law_486 rfl (lv_at hl 0 rfl) ?_
  refine lv_iload_n hx hb dL_law_487 rfl (lv_at hl 3 rfl) ?_
  refine lv_iconst (v := 1) hx hb dL_law_488 (by decide) ?_
  refine lv_iadd hx hb dL_law_489 ?_
  refine q_sld hx hb hX hbl hbA hS i1 e1 dL_law_490 ?_
  refine lw_cm (va_runV (C := RX5) (As := [.int a1]) (rest := [.int r]) ⟨hx, hb, hml, hown, hts⟩ (mt_X5_hang l D cI cZ v M N a1 r M1 N1 ok.2.1 h2) (cwV 1 hts lV_X5_hang rfl rfl rfl (by decide +kernel) ⟨Nat.le_of_ble_eq_true rfl, Nat.le_of_ble_eq_true rfl⟩) ⟨mR_b, va_recv hK hPm (ci := 5) (q0 := 0) rfl rfl, (mR_p hPm hK trivial).2⟩ rfl rfl hl.1 rfl (lv_room (Nat.le_of_ble_eq_true rfl)) dL_law_491 ⟨Nat.le_refl _, Nat.le_refl _⟩) ok hPb hS (fun H locs hPb hPm hS => ?_)
  refine lv_icmp_eq (tgt := 657) hx hb dL_law_494 (by decide) (fun _ => ?_) (fun cn => absurd rfl cn)
  exact k657 u v F1 G1 M1 N1 _ _ hRl ok hPb hPm hS ls hl
set_option maxHeartbeats 4000000 in
set_option maxRecDepth 100000 in
theorem law_pull {p : Program} {l : Launch} {e : Env} {s : State} {m : MethodId} {below : List Frame} {meth : Method} {c : Code} {D : va_G} {cI cZ : ClassId} {b L : Nat} {xs : Nat → Int32} (C0 : lw_At p s m meth c b L xs) {Rl : (Nat → Int32) → (Nat → Nat → Int32) → (Nat → Int32) → (Nat → Nat → Int32) → Prop} (hRo : lh_pull Rl) (hK : va_K D vwCl [(cI, FieldType.int), (cZ, FieldType.boolean)] s) (hN : nN s) {j : Nat} (hL : L ≤ 3072) (hj : j + 6 ≤ L) (k657 : ∀ (u v : Nat → Nat) (F : Nat → Int32) (G : Nat → Nat → Int32) (M : Nat → Int32) (N : Nat → Nat → Int32) (H : Heap) (locs : List Loc), Rl F G M N → lwOK s.heap.size cI cZ u v → va_P D vwCl (bdW cI u F G) H → va_P D vwCl (mW cI cZ v M N) H → va_S (fun q => s.heap.size ≤ q) s.heap H locs → ∀ ls : Array Slot, lv_has ls 4 [(0, .ref b), (1, .ref (u 90)), (2, .ref (v 99)), (3, .int (nI j))] → W p l e room_1 s m #[Value.ref b] below meth c H locs 59 8615 (lw_Z below #[Value.ref b] s) (F0 m 657 ls [])) : ∀ (u v : Nat → Nat) (F : Nat → Int32) (G : Nat → Nat → Int32) (M : Nat → Int32) (N : Nat → Nat → Int32) (H : Heap) (locs : List Loc), Rl F G M N → lwOK s.heap.size cI cZ u v → va_P D vwCl (bdW cI u F G) H → va_P D vwCl (mW cI cZ v M N) H → va_S (fun q => s.heap.size ≤ q) s.heap H locs → ∀ ls : Array Slot, lv_has ls 4 [(0, .ref b), (1, .ref (u 90)), (2, .ref (v 99)), (3, .int (nI j))] → W p l e room_1 s m #[Value.ref b] below meth c H locs 59 8615 (lw_Z below #[Value.ref b] s) (F0 m 499 ls []) := by
  obtain ⟨hx, hb, hr, hml, hown, hts, hX, hbl, hlocks, hgv⟩ := C0
  have hbA : ¬ (fun q : Nat => s.heap.size ≤ q) b := Nat.not_le.mpr hbl
  have hK1 : va_K D vwCl [(cI, FieldType.int)] s := hK.sub [0] rfl
  intro u v F G M N H locs hRl ok hPb hPm hS ls hl
  obtain ⟨a1, e1⟩ : ∃ z : Int32, xs (nI j + 1).toNatClampNeg = z := ⟨_, rfl⟩
  have i1 : vp_in (nI j + 1) L := by rw [show nI j + 1 = nI (j + 1) from nI_add j 1]; exact vp_in_nI (by omega) (by omega)
  obtain ⟨r, F1, G1, M1, N1, h1, h2, hRl⟩ := hRo F G M N hRl a1
  refine lv_aload_n hx hb dL_law_499 rfl (lv_at hl 1 rfl) ?_
  refine lv_aload_n hx hb dL_law_500 rfl (lv_at hl 0 rfl) ?_
  refine lv_iload_n hx hb dL_law_501 rfl (lv_at hl 3 rfl) ?_
  refine lv_iconst (v := 1) hx hb dL_law_502 (by decide) ?_
  refine lv_iadd hx hb dL_law_503 ?_
  refine q_sld hx hb hX hbl hbA hS i1 e1 dL_law_504 ?_
  refine lw_cb (va_runV (C := RX4) (As := [.int a1]) (rest := []) ⟨hx, hb, hml, hown, hts⟩ (mt_X4_pull l D cI u F G a1 r F1 G1 ok.1 h1) (cwV 1 hts lV_X4_pull rfl rfl rfl (by decide +kernel) ⟨Nat.le_of_ble_eq_true rfl, Nat.le_of_ble_eq_true rfl⟩) ⟨bdR_b, va_recv hK1 hPb (ci := 4) (q0 := 0) rfl rfl, (bdR_p hPb hK1 hN).2⟩ rfl rfl hl.1 rfl (lv_room (Nat.le_of_ble_eq_true rfl)) dL_law_505 ⟨Nat.le_refl _, Nat.le_refl _⟩) ok hPm hS (fun H locs hPb hPm hS => ?_)
  refine lv_aload_n hx hb dL_law_508 rfl (lv_at hl 2 rfl) ?_
  refine lv_aload_n hx hb dL_law_509 rfl (lv_at hl 0 rfl) ?_
  refine lv_iload_n hx hb dL_law_510 rfl (lv_at hl 3 rfl) ?_
  refine lv_iconst (v := 1) hx hb dL_law_511 (by decide) ?_
  refine lv_iadd hx hb dL_law_512 ?_
  refine q_sld hx hb hX hbl hbA hS i1 e1 dL_law_513 ?_
  refine lw_cm (va_runV (C := RX5) (As := [.int a1]) (rest := [.int r]) ⟨hx, hb, hml, hown, hts⟩ (mt_X5_pull l D cI cZ v M N a1 r M1 N1 ok.2.1 h2) (cwV 1 hts lV_X5_pull rfl rfl rfl (by decide +kernel) ⟨Nat.le_of_ble_eq_true rfl, Nat.le_of_ble_eq_true rfl⟩) ⟨mR_b, va_recv hK hPm (ci := 5) (q0 := 0) rfl rfl, (mR_p hPm hK trivial).2⟩ rfl rfl hl.1 rfl (lv_room (Nat.le_of_ble_eq_true rfl)) dL_law_514 ⟨Nat.le_refl _, Nat.le_refl _⟩) ok hPb hS (fun H locs hPb hPm hS => ?_)
  refine lv_icmp_eq (tgt := 657) hx hb dL_law_517 (by decide) (fun _ => ?_) (fun cn => absurd rfl cn)
  exact k657 u v F1 G1 M1 N1 _ _ hRl ok hPb hPm hS ls hl
set_option maxHeartbeats 4000000 in
set_option maxRecDepth 100000 in
theorem law_pulled {p : Program} {l : Launch} {e : Env} {s : State} {m : MethodId} {below : List Frame} {meth : Method} {c : Code} {D : va_G} {cI cZ : ClassId} {b L : Nat} {xs : Nat → Int32} (C0 : lw_At p s m meth c b L xs) {Rl : (Nat → Int32) → (Nat → Nat → Int32) → (Nat → Int32) → (Nat → Nat → Int32) → Prop} (hRo : lh_pulled Rl) (hK : va_K D vwCl [(cI, FieldType.int), (cZ, FieldType.boolean)] s) (hN : nN s) {j : Nat} (hL : L ≤ 3072) (hj : j + 6 ≤ L) (k657 : ∀ (u v : Nat → Nat) (F : Nat → Int32) (G : Nat → Nat → Int32) (M : Nat → Int32) (N : Nat → Nat → Int32) (H : Heap) (locs : List Loc), Rl F G M N → lwOK s.heap.size cI cZ u v → va_P D vwCl (bdW cI u F G) H → va_P D vwCl (mW cI cZ v M N) H → va_S (fun q => s.heap.size ≤ q) s.heap H locs → ∀ ls : Array Slot, lv_has ls 4 [(0, .ref b), (1, .ref (u 90)), (2, .ref (v 99)), (3, .int (nI j))] → W p l e room_1 s m #[Value.ref b] below meth c H locs 59 8615 (lw_Z below #[Value.ref b] s) (F0 m 657 ls [])) : ∀ (u v : Nat → Nat) (F : Nat → Int32) (G : Nat → Nat → Int32) (M : Nat → Int32) (N : Nat → Nat → Int32) (H : Heap) (locs : List Loc), Rl F G M N → lwOK s.heap.size cI cZ u v → va_P D vwCl (bdW cI u F G) H → va_P D vwCl (mW cI cZ v M N) H → va_S (fun q => s.heap.size ≤ q) s.heap H locs → ∀ ls : Array Slot, lv_has ls 4 [(0, .ref b), (1, .ref (u 90)), (2, .ref (v 99)), (3, .int (nI j))] → W p l e room_1 s m #[Value.ref b] below meth c H locs 59 8615 (lw_Z below #[Value.ref b] s) (F0 m 522 ls []) := by
  obtain ⟨hx, hb, hr, hml, hown, hts, hX, hbl, hlocks, hgv⟩ := C0
  have hbA : ¬ (fun q : Nat => s.heap.size ≤ q) b := Nat.not_le.mpr hbl
  have hK1 : va_K D vwCl [(cI, FieldType.int)] s := hK.sub [0] rfl
  intro u v F G M N H locs hRl ok hPb hPm hS ls hl
  obtain ⟨a1, e1⟩ : ∃ z : Int32, xs (nI j + 1).toNatClampNeg = z := ⟨_, rfl⟩
  have i1 : vp_in (nI j + 1) L := by rw [show nI j + 1 = nI (j + 1) from nI_add j 1]; exact vp_in_nI (by omega) (by omega)
  obtain ⟨a2, e2⟩ : ∃ z : Int32, xs (nI j + 2).toNatClampNeg = z := ⟨_, rfl⟩
  have i2 : vp_in (nI j + 2) L := by rw [show nI j + 2 = nI (j + 2) from nI_add j 2]; exact vp_in_nI (by omega) (by omega)
  obtain ⟨r, F1, G1, M1, N1, h1, h2, hRl⟩ := hRo F G M N hRl a1 a2
  refine lv_aload_n hx hb dL_law_522 rfl (lv_at hl 1 rfl) ?_
  refine lv_aload_n hx hb dL_law_523 rfl (lv_at hl 0 rfl) ?_
  refine lv_iload_n hx hb dL_law_524 rfl (lv_at hl 3 rfl) ?_
  refine lv_iconst (v := 1) hx hb dL_law_525 (by decide) ?_
  refine lv_iadd hx hb dL_law_526 ?_
  refine q_sld hx hb hX hbl hbA hS i1 e1 dL_law_527 ?_
  refine lv_aload_n hx hb dL_law_528 rfl (lv_at hl 0 rfl) ?_
  refine lv_iload_n hx hb dL_law_529 rfl (lv_at hl 3 rfl) ?_
  refine lv_iconst (v := 2) hx hb dL_law_530 (by decide) ?_
  refine lv_iadd hx hb dL_law_531 ?_
  refine q_sld hx hb hX hbl hbA hS i2 e2 dL_law_532 ?_
  refine lw_cb (va_runV (C := RX4) (As := [.int a1, .int a2]) (rest := []) ⟨hx, hb, hml, hown, hts⟩ (mt_X4_pulled l D cI u F G a1 a2 r F1 G1 ok.1 h1) (cwV 2 hts lV_X4_pulled rfl rfl rfl (by decide +kernel) ⟨Nat.le_of_ble_eq_true rfl, Nat.le_of_ble_eq_true rfl⟩) ⟨bdR_b, va_recv hK1 hPb (ci := 4) (q0 := 0) rfl rfl, (bdR_p hPb hK1 hN).2⟩ rfl rfl hl.1 rfl (lv_room (Nat.le_of_ble_eq_true rfl)) dL_law_533 ⟨Nat.le_refl _, Nat.le_refl _⟩) ok hPm hS (fun H locs hPb hPm hS => ?_)
  refine lv_aload_n hx hb dL_law_536 rfl (lv_at hl 2 rfl) ?_
  refine lv_aload_n hx hb dL_law_537 rfl (lv_at hl 0 rfl) ?_
  refine lv_iload_n hx hb dL_law_538 rfl (lv_at hl 3 rfl) ?_
  refine lv_iconst (v := 1) hx hb dL_law_539 (by decide) ?_
  refine lv_iadd hx hb dL_law_540 ?_
  refine q_sld hx hb hX hbl hbA hS i1 e1 dL_law_541 ?_
  refine lv_aload_n hx hb dL_law_542 rfl (lv_at hl 0 rfl) ?_
  refine lv_iload_n hx hb dL_law_543 rfl (lv_at hl 3 rfl) ?_
  refine lv_iconst (v := 2) hx hb dL_law_544 (by decide) ?_
  refine lv_iadd hx hb dL_law_545 ?_
  refine q_sld hx hb hX hbl hbA hS i2 e2 dL_law_546 ?_
  refine lw_cm (va_runV (C := RX5) (As := [.int a1, .int a2]) (rest := [.int r]) ⟨hx, hb, hml, hown, hts⟩ (mt_X5_pulled l D cI cZ v M N a1 a2 r M1 N1 ok.2.1 h2) (cwV 2 hts lV_X5_pulled rfl rfl rfl (by decide +kernel) ⟨Nat.le_of_ble_eq_true rfl, Nat.le_of_ble_eq_true rfl⟩) ⟨mR_b, va_recv hK hPm (ci := 5) (q0 := 0) rfl rfl, (mR_p hPm hK trivial).2⟩ rfl rfl hl.1 rfl (lv_room (Nat.le_of_ble_eq_true rfl)) dL_law_547 ⟨Nat.le_refl _, Nat.le_refl _⟩) ok hPb hS (fun H locs hPb hPm hS => ?_)
  refine lv_icmp_eq (tgt := 657) hx hb dL_law_550 (by decide) (fun _ => ?_) (fun cn => absurd rfl cn)
  exact k657 u v F1 G1 M1 N1 _ _ hRl ok hPb hPm hS ls hl
set_option maxHeartbeats 4000000 in
set_option maxRecDepth 100000 in
theorem law_woven {p : Program} {l : Launch} {e : Env} {s : State} {m : MethodId} {below : List Frame} {meth : Method} {c : Code} {D : va_G} {cI cZ : ClassId} {b L : Nat} {xs : Nat → Int32} (C0 : lw_At p s m meth c b L xs) {Rl : (Nat → Int32) → (Nat → Nat → Int32) → (Nat → Int32) → (Nat → Nat → Int32) → Prop} (hRo : lh_woven Rl) (hK : va_K D vwCl [(cI, FieldType.int), (cZ, FieldType.boolean)] s) (hN : nN s) {j : Nat} (hL : L ≤ 3072) (hj : j + 6 ≤ L) (k657 : ∀ (u v : Nat → Nat) (F : Nat → Int32) (G : Nat → Nat → Int32) (M : Nat → Int32) (N : Nat → Nat → Int32) (H : Heap) (locs : List Loc), Rl F G M N → lwOK s.heap.size cI cZ u v → va_P D vwCl (bdW cI u F G) H → va_P D vwCl (mW cI cZ v M N) H → va_S (fun q => s.heap.size ≤ q) s.heap H locs → ∀ ls : Array Slot, lv_has ls 4 [(0, .ref b), (1, .ref (u 90)), (2, .ref (v 99)), (3, .int (nI j))] → W p l e room_1 s m #[Value.ref b] below meth c H locs 59 8615 (lw_Z below #[Value.ref b] s) (F0 m 657 ls [])) : ∀ (u v : Nat → Nat) (F : Nat → Int32) (G : Nat → Nat → Int32) (M : Nat → Int32) (N : Nat → Nat → Int32) (H : Heap) (locs : List Loc), Rl F G M N → lwOK s.heap.size cI cZ u v → va_P D vwCl (bdW cI u F G) H → va_P D vwCl (mW cI cZ v M N) H → va_S (fun q => s.heap.size ≤ q) s.heap H locs → ∀ ls : Array Slot, lv_has ls 4 [(0, .ref b), (1, .ref (u 90)), (2, .ref (v 99)), (3, .int (nI j))] → W p l e room_1 s m #[Value.ref b] below meth c H locs 59 8615 (lw_Z below #[Value.ref b] s) (F0 m 555 ls []) := by
  obtain ⟨hx, hb, hr, hml, hown, hts, hX, hbl, hlocks, hgv⟩ := C0
  have hbA : ¬ (fun q : Nat => s.heap.size ≤ q) b := Nat.not_le.mpr hbl
  have hK1 : va_K D vwCl [(cI, FieldType.int)] s := hK.sub [0] rfl
  intro u v F G M N H locs hRl ok hPb hPm hS ls hl
  obtain ⟨a1, e1⟩ : ∃ z : Int32, xs (nI j + 1).toNatClampNeg = z := ⟨_, rfl⟩
  have i1 : vp_in (nI j + 1) L := by rw [show nI j + 1 = nI (j + 1) from nI_add j 1]; exact vp_in_nI (by omega) (by omega)
  obtain ⟨a2, e2⟩ : ∃ z : Int32, xs (nI j + 2).toNatClampNeg = z := ⟨_, rfl⟩
  have i2 : vp_in (nI j + 2) L := by rw [show nI j + 2 = nI (j + 2) from nI_add j 2]; exact vp_in_nI (by omega) (by omega)
  obtain ⟨r, h1, h2⟩ := hRo F G M N hRl a1 a2
  refine lv_aload_n hx hb dL_law_555 rfl (lv_at hl 1 rfl) ?_
  refine lv_aload_n hx hb dL_law_556 rfl (lv_at hl 0 rfl) ?_
  refine lv_iload_n hx hb dL_law_557 rfl (lv_at hl 3 rfl) ?_
  refine lv_iconst (v := 1) hx hb dL_law_558 (by decide) ?_
  refine lv_iadd hx hb dL_law_559 ?_
  refine q_sld hx hb hX hbl hbA hS i1 e1 dL_law_560 ?_
  refine lv_aload_n hx hb dL_law_561 rfl (lv_at hl 0 rfl) ?_
  refine lv_iload_n hx hb dL_law_562 rfl (lv_at hl 3 rfl) ?_
  refine lv_iconst (v := 2) hx hb dL_law_563 (by decide) ?_
  refine lv_iadd hx hb dL_law_564 ?_
  refine q_sld hx hb hX hbl hbA hS i2 e2 dL_law_565 ?_
  refine q_cs (W.runV (C := RX4) (As := [.int a1, .int a2]) (rest := []) ⟨hx, hb, hml, hown, hts⟩ (mt_X4_woven l D cI u F G a1 a2 r h1) (cwV 2 hts lV_X4_woven rfl rfl rfl (by decide +kernel) ⟨Nat.le_of_ble_eq_true rfl, Nat.le_of_ble_eq_true rfl⟩) ⟨bdR_b, va_recv hK1 hPb (ci := 4) (q0 := 0) rfl rfl, (bdR_p hPb hK1 hN).2⟩ rfl rfl hl.1 rfl (lv_room (Nat.le_of_ble_eq_true rfl)) dL_law_566 ⟨Nat.le_refl _, Nat.le_refl _⟩) ?_
  refine lv_aload_n hx hb dL_law_569 rfl (lv_at hl 2 rfl) ?_
  refine lv_aload_n hx hb dL_law_570 rfl (lv_at hl 0 rfl) ?_
  refine lv_iload_n hx hb dL_law_571 rfl (lv_at hl 3 rfl) ?_
  refine lv_iconst (v := 1) hx hb dL_law_572 (by decide) ?_
  refine lv_iadd hx hb dL_law_573 ?_
  refine q_sld hx hb hX hbl hbA hS i1 e1 dL_law_574 ?_
  refine lv_aload_n hx hb dL_law_575 rfl (lv_at hl 0 rfl) ?_
  refine lv_iload_n hx hb dL_law_576 rfl (lv_at hl 3 rfl) ?_
  refine lv_iconst (v := 2) hx hb dL_law_577 (by decide) ?_
  refine lv_iadd hx hb dL_law_578 ?_
  refine q_sld hx hb hX hbl hbA hS i2 e2 dL_law_579 ?_
  refine q_cs (W.runV (C := RX5) (As := [.int a1, .int a2]) (rest := [.int r]) ⟨hx, hb, hml, hown, hts⟩ (mt_X5_woven l D cI cZ v M N a1 a2 r h2) (cwV 2 hts lV_X5_woven rfl rfl rfl (by decide +kernel) ⟨Nat.le_of_ble_eq_true rfl, Nat.le_of_ble_eq_true rfl⟩) ⟨mR_b, va_recv hK hPm (ci := 5) (q0 := 0) rfl rfl, (mR_p hPm hK trivial).2⟩ rfl rfl hl.1 rfl (lv_room (Nat.le_of_ble_eq_true rfl)) dL_law_580 ⟨Nat.le_refl _, Nat.le_refl _⟩) ?_
  refine lv_icmp_eq (tgt := 657) hx hb dL_law_583 (by decide) (fun _ => ?_) (fun cn => absurd rfl cn)
  exact k657 u v F G M N _ _ hRl ok hPb hPm hS ls hl
set_option maxHeartbeats 4000000 in
set_option maxRecDepth 100000 in
theorem law_best {p : Program} {l : Launch} {e : Env} {s : State} {m : MethodId} {below : List Frame} {meth : Method} {c : Code} {D : va_G} {cI cZ : ClassId} {b L : Nat} {xs : Nat → Int32} (C0 : lw_At p s m meth c b L xs) {Rl : (Nat → Int32) → (Nat → Nat → Int32) → (Nat → Int32) → (Nat → Nat → Int32) → Prop} (hRo : lh_best Rl) (hK : va_K D vwCl [(cI, FieldType.int), (cZ, FieldType.boolean)] s) (hN : nN s) {j : Nat} (hL : L ≤ 3072) (hj : j + 6 ≤ L) (k657 : ∀ (u v : Nat → Nat) (F : Nat → Int32) (G : Nat → Nat → Int32) (M : Nat → Int32) (N : Nat → Nat → Int32) (H : Heap) (locs : List Loc), Rl F G M N → lwOK s.heap.size cI cZ u v → va_P D vwCl (bdW cI u F G) H → va_P D vwCl (mW cI cZ v M N) H → va_S (fun q => s.heap.size ≤ q) s.heap H locs → ∀ ls : Array Slot, lv_has ls 4 [(0, .ref b), (1, .ref (u 90)), (2, .ref (v 99)), (3, .int (nI j))] → W p l e room_1 s m #[Value.ref b] below meth c H locs 59 8615 (lw_Z below #[Value.ref b] s) (F0 m 657 ls [])) : ∀ (u v : Nat → Nat) (F : Nat → Int32) (G : Nat → Nat → Int32) (M : Nat → Int32) (N : Nat → Nat → Int32) (H : Heap) (locs : List Loc), Rl F G M N → lwOK s.heap.size cI cZ u v → va_P D vwCl (bdW cI u F G) H → va_P D vwCl (mW cI cZ v M N) H → va_S (fun q => s.heap.size ≤ q) s.heap H locs → ∀ ls : Array Slot, lv_has ls 4 [(0, .ref b), (1, .ref (u 90)), (2, .ref (v 99)), (3, .int (nI j))] → W p l e room_1 s m #[Value.ref b] below meth c H locs 59 8615 (lw_Z below #[Value.ref b] s) (F0 m 588 ls []) := by
  obtain ⟨hx, hb, hr, hml, hown, hts, hX, hbl, hlocks, hgv⟩ := C0
  have hbA : ¬ (fun q : Nat => s.heap.size ≤ q) b := Nat.not_le.mpr hbl
  have hK1 : va_K D vwCl [(cI, FieldType.int)] s := hK.sub [0] rfl
  intro u v F G M N H locs hRl ok hPb hPm hS ls hl
  obtain ⟨r, F1, G1, M1, N1, h1, h2, hRl⟩ := hRo F G M N hRl 
  refine lv_aload_n hx hb dL_law_588 rfl (lv_at hl 1 rfl) ?_
  refine lw_cx (va_runV (C := RX4) (As := []) (rest := []) ⟨hx, hb, hml, hown, hts⟩ (mt_X4_best l D cI u F G  r F1 G1 ok.1 h1) (cwV 0 hts lV_X4_best rfl rfl rfl (by decide +kernel) ⟨Nat.le_of_ble_eq_true rfl, Nat.le_of_ble_eq_true rfl⟩) ⟨bdR_b, va_recv hK1 hPb (ci := 4) (q0 := 0) rfl rfl, (bdR_p hPb hK1 hN).2⟩ rfl rfl hl.1 rfl (lv_room (Nat.le_of_ble_eq_true rfl)) dL_law_589 ⟨Nat.le_refl _, Nat.le_refl _⟩) ok hPm hS (fun x H locs hx90 ok hPb hPm hS => ?_)
  rw [← hx90] at hl
  clear hx90
  refine lv_aload_n hx hb dL_law_592 rfl (lv_at hl 2 rfl) ?_
  refine lw_cm (va_runV (C := RX5) (As := []) (rest := [.int r]) ⟨hx, hb, hml, hown, hts⟩ (mt_X5_best l D cI cZ v M N  r M1 N1 ok.2.1 h2) (cwV 0 hts lV_X5_best rfl rfl rfl (by decide +kernel) ⟨Nat.le_of_ble_eq_true rfl, Nat.le_of_ble_eq_true rfl⟩) ⟨mR_b, va_recv hK hPm (ci := 5) (q0 := 0) rfl rfl, (mR_p hPm hK trivial).2⟩ rfl rfl hl.1 rfl (lv_room (Nat.le_of_ble_eq_true rfl)) dL_law_593 ⟨Nat.le_refl _, Nat.le_refl _⟩) ok hPb hS (fun H locs hPb hPm hS => ?_)
  refine lv_icmp_eq (tgt := 657) hx hb dL_law_596 (by decide) (fun _ => ?_) (fun cn => absurd rfl cn)
  exact k657 x v F1 G1 M1 N1 _ _ hRl ok hPb hPm hS ls hl
set_option maxHeartbeats 4000000 in
set_option maxRecDepth 100000 in
theorem law_bought {p : Program} {l : Launch} {e : Env} {s : State} {m : MethodId} {below : List Frame} {meth : Method} {c : Code} {D : va_G} {cI cZ : ClassId} {b L : Nat} {xs : Nat → Int32} (C0 : lw_At p s m meth c b L xs) {Rl : (Nat → Int32) → (Nat → Nat → Int32) → (Nat → Int32) → (Nat → Nat → Int32) → Prop} (hRo : lh_bought Rl) (hK : va_K D vwCl [(cI, FieldType.int), (cZ, FieldType.boolean)] s) (hN : nN s) {j : Nat} (hL : L ≤ 3072) (hj : j + 6 ≤ L) (k657 : ∀ (u v : Nat → Nat) (F : Nat → Int32) (G : Nat → Nat → Int32) (M : Nat → Int32) (N : Nat → Nat → Int32) (H : Heap) (locs : List Loc), Rl F G M N → lwOK s.heap.size cI cZ u v → va_P D vwCl (bdW cI u F G) H → va_P D vwCl (mW cI cZ v M N) H → va_S (fun q => s.heap.size ≤ q) s.heap H locs → ∀ ls : Array Slot, lv_has ls 4 [(0, .ref b), (1, .ref (u 90)), (2, .ref (v 99)), (3, .int (nI j))] → W p l e room_1 s m #[Value.ref b] below meth c H locs 59 8615 (lw_Z below #[Value.ref b] s) (F0 m 657 ls [])) : ∀ (u v : Nat → Nat) (F : Nat → Int32) (G : Nat → Nat → Int32) (M : Nat → Int32) (N : Nat → Nat → Int32) (H : Heap) (locs : List Loc), Rl F G M N → lwOK s.heap.size cI cZ u v → va_P D vwCl (bdW cI u F G) H → va_P D vwCl (mW cI cZ v M N) H → va_S (fun q => s.heap.size ≤ q) s.heap H locs → ∀ ls : Array Slot, lv_has ls 4 [(0, .ref b), (1, .ref (u 90)), (2, .ref (v 99)), (3, .int (nI j))] → W p l e room_1 s m #[Value.ref b] below meth c H locs 59 8615 (lw_Z below #[Value.ref b] s) (F0 m 601 ls []) := by
  obtain ⟨hx, hb, hr, hml, hown, hts, hX, hbl, hlocks, hgv⟩ := C0
  have hbA : ¬ (fun q : Nat => s.heap.size ≤ q) b := Nat.not_le.mpr hbl
  have hK1 : va_K D vwCl [(cI, FieldType.int)] s := hK.sub [0] rfl
  intro u v F G M N H locs hRl ok hPb hPm hS ls hl
  obtain ⟨a1, e1⟩ : ∃ z : Int32, xs (nI j + 1).toNatClampNeg = z := ⟨_, rfl⟩
  have i1 : vp_in (nI j + 1) L := by rw [show nI j + 1 = nI (j + 1) from nI_add j 1]; exact vp_in_nI (by omega) (by omega)
  obtain ⟨a2, e2⟩ : ∃ z : Int32, xs (nI j + 2).toNatClampNeg = z := ⟨_, rfl⟩
  have i2 : vp_in (nI j + 2) L := by rw [show nI j + 2 = nI (j + 2) from nI_add j 2]; exact vp_in_nI (by omega) (by omega)
  obtain ⟨r, h1, h2⟩ := hRo F G M N hRl a1 a2
  refine lv_aload_n hx hb dL_law_601 rfl (lv_at hl 1 rfl) ?_
  refine lv_aload_n hx hb dL_law_602 rfl (lv_at hl 0 rfl) ?_
  refine lv_iload_n hx hb dL_law_603 rfl (lv_at hl 3 rfl) ?_
  refine lv_iconst (v := 1) hx hb dL_law_604 (by decide) ?_
  refine lv_iadd hx hb dL_law_605 ?_
  refine q_sld hx hb hX hbl hbA hS i1 e1 dL_law_606 ?_
  refine lv_aload_n hx hb dL_law_607 rfl (lv_at hl 0 rfl) ?_
  refine lv_iload_n hx hb dL_law_608 rfl (lv_at hl 3 rfl) ?_
  refine lv_iconst (v := 2) hx hb dL_law_609 (by decide) ?_
  refine lv_iadd hx hb dL_law_610 ?_
  refine q_sld hx hb hX hbl hbA hS i2 e2 dL_law_611 ?_
  refine q_cs (W.runV (C := RX4) (As := [.int a1, .int a2]) (rest := []) ⟨hx, hb, hml, hown, hts⟩ (mt_X4_bought l D cI u F G a1 a2 r h1) (cwV 2 hts lV_X4_bought rfl rfl rfl (by decide +kernel) ⟨Nat.le_of_ble_eq_true rfl, Nat.le_of_ble_eq_true rfl⟩) ⟨bdR_b, va_recv hK1 hPb (ci := 4) (q0 := 0) rfl rfl, (bdR_p hPb hK1 hN).2⟩ rfl rfl hl.1 rfl (lv_room (Nat.le_of_ble_eq_true rfl)) dL_law_612 ⟨Nat.le_refl _, Nat.le_refl _⟩) ?_
  refine lv_aload_n hx hb dL_law_615 rfl (lv_at hl 2 rfl) ?_
  refine lv_aload_n hx hb dL_law_616 rfl (lv_at hl 0 rfl) ?_
  refine lv_iload_n hx hb dL_law_617 rfl (lv_at hl 3 rfl) ?_
  refine lv_iconst (v := 1) hx hb dL_law_618 (by decide) ?_
  refine lv_iadd hx hb dL_law_619 ?_
  refine q_sld hx hb hX hbl hbA hS i1 e1 dL_law_620 ?_
  refine lv_aload_n hx hb dL_law_621 rfl (lv_at hl 0 rfl) ?_
  refine lv_iload_n hx hb dL_law_622 rfl (lv_at hl 3 rfl) ?_
  refine lv_iconst (v := 2) hx hb dL_law_623 (by decide) ?_
  refine lv_iadd hx hb dL_law_624 ?_
  refine q_sld hx hb hX hbl hbA hS i2 e2 dL_law_625 ?_
  refine q_cs (W.runV (C := RX5) (As := [.int a1, .int a2]) (rest := [.int r]) ⟨hx, hb, hml, hown, hts⟩ (mt_X5_bought l D cI cZ v M N a1 a2 r h2) (cwV 2 hts lV_X5_bought rfl rfl rfl (by decide +kernel) ⟨Nat.le_of_ble_eq_true rfl, Nat.le_of_ble_eq_true rfl⟩) ⟨mR_b, va_recv hK hPm (ci := 5) (q0 := 0) rfl rfl, (mR_p hPm hK trivial).2⟩ rfl rfl hl.1 rfl (lv_room (Nat.le_of_ble_eq_true rfl)) dL_law_626 ⟨Nat.le_refl _, Nat.le_refl _⟩) ?_
  refine lv_icmp_eq (tgt := 657) hx hb dL_law_629 (by decide) (fun _ => ?_) (fun cn => absurd rfl cn)
  exact k657 u v F G M N _ _ hRl ok hPb hPm hS ls hl
set_option maxHeartbeats 4000000 in
set_option maxRecDepth 100000 in
theorem law_count {p : Program} {l : Launch} {e : Env} {s : State} {m : MethodId} {below : List Frame} {meth : Method} {c : Code} {D : va_G} {cI cZ : ClassId} {b L : Nat} {xs : Nat → Int32} (C0 : lw_At p s m meth c b L xs) {Rl : (Nat → Int32) → (Nat → Nat → Int32) → (Nat → Int32) → (Nat → Nat → Int32) → Prop} (hRo : lh_count Rl) (hK : va_K D vwCl [(cI, FieldType.int), (cZ, FieldType.boolean)] s) (hN : nN s) {j : Nat} (hL : L ≤ 3072) (hj : j + 6 ≤ L) (k657 : ∀ (u v : Nat → Nat) (F : Nat → Int32) (G : Nat → Nat → Int32) (M : Nat → Int32) (N : Nat → Nat → Int32) (H : Heap) (locs : List Loc), Rl F G M N → lwOK s.heap.size cI cZ u v → va_P D vwCl (bdW cI u F G) H → va_P D vwCl (mW cI cZ v M N) H → va_S (fun q => s.heap.size ≤ q) s.heap H locs → ∀ ls : Array Slot, lv_has ls 4 [(0, .ref b), (1, .ref (u 90)), (2, .ref (v 99)), (3, .int (nI j))] → W p l e room_1 s m #[Value.ref b] below meth c H locs 59 8615 (lw_Z below #[Value.ref b] s) (F0 m 657 ls [])) : ∀ (u v : Nat → Nat) (F : Nat → Int32) (G : Nat → Nat → Int32) (M : Nat → Int32) (N : Nat → Nat → Int32) (H : Heap) (locs : List Loc), Rl F G M N → lwOK s.heap.size cI cZ u v → va_P D vwCl (bdW cI u F G) H → va_P D vwCl (mW cI cZ v M N) H → va_S (fun q => s.heap.size ≤ q) s.heap H locs → ∀ ls : Array Slot, lv_has ls 4 [(0, .ref b), (1, .ref (u 90)), (2, .ref (v 99)), (3, .int (nI j))] → W p l e room_1 s m #[Value.ref b] below meth c H locs 59 8615 (lw_Z below #[Value.ref b] s) (F0 m 634 ls []) := by
  obtain ⟨hx, hb, hr, hml, hown, hts, hX, hbl, hlocks, hgv⟩ := C0
  have hbA : ¬ (fun q : Nat => s.heap.size ≤ q) b := Nat.not_le.mpr hbl
  have hK1 : va_K D vwCl [(cI, FieldType.int)] s := hK.sub [0] rfl
  intro u v F G M N H locs hRl ok hPb hPm hS ls hl
  obtain ⟨a1, e1⟩ : ∃ z : Int32, xs (nI j + 1).toNatClampNeg = z := ⟨_, rfl⟩
  have i1 : vp_in (nI j + 1) L := by rw [show nI j + 1 = nI (j + 1) from nI_add j 1]; exact vp_in_nI (by omega) (by omega)
  obtain ⟨r, h1, h2⟩ := hRo F G M N hRl a1
  refine lv_aload_n hx hb dL_law_634 rfl (lv_at hl 1 rfl) ?_
  refine lv_aload_n hx hb dL_law_635 rfl (lv_at hl 0 rfl) ?_
  refine lv_iload_n hx hb dL_law_636 rfl (lv_at hl 3 rfl) ?_
  refine lv_iconst (v := 1) hx hb dL_law_637 (by decide) ?_
  refine lv_iadd hx hb dL_law_638 ?_
  refine q_sld hx hb hX hbl hbA hS i1 e1 dL_law_639 ?_
  refine q_cs (W.runV (C := RX4) (As := [.int a1]) (rest := []) ⟨hx, hb, hml, hown, hts⟩ (mt_X4_count l D cI u F G a1 r h1) (cwV 1 hts lV_X4_count rfl rfl rfl (by decide +kernel) ⟨Nat.le_of_ble_eq_true rfl, Nat.le_of_ble_eq_true rfl⟩) ⟨bdR_b, va_recv hK1 hPb (ci := 4) (q0 := 0) rfl rfl, (bdR_p hPb hK1 hN).2⟩ rfl rfl hl.1 rfl (lv_room (Nat.le_of_ble_eq_true rfl)) dL_law_640 ⟨Nat.le_refl _, Nat.le_refl _⟩) ?_
  refine lv_aload_n hx hb dL_law_643 rfl (lv_at hl 2 rfl) ?_
  refine lv_aload_n hx hb dL_law_644 rfl (lv_at hl 0 rfl) ?_
  refine lv_iload_n hx hb dL_law_645 rfl (lv_at hl 3 rfl) ?_
  refine lv_iconst (v := 1) hx hb dL_law_646 (by decide) ?_
  refine lv_iadd hx hb dL_law_647 ?_
  refine q_sld hx hb hX hbl hbA hS i1 e1 dL_law_648 ?_
  refine q_cs (W.runV (C := RX5) (As := [.int a1]) (rest := [.int r]) ⟨hx, hb, hml, hown, hts⟩ (mt_X5_count l D cI cZ v M N a1 r h2) (cwV 1 hts lV_X5_count rfl rfl rfl (by decide +kernel) ⟨Nat.le_of_ble_eq_true rfl, Nat.le_of_ble_eq_true rfl⟩) ⟨mR_b, va_recv hK hPm (ci := 5) (q0 := 0) rfl rfl, (mR_p hPm hK trivial).2⟩ rfl rfl hl.1 rfl (lv_room (Nat.le_of_ble_eq_true rfl)) dL_law_649 ⟨Nat.le_refl _, Nat.le_refl _⟩) ?_
  refine lv_icmp_eq (tgt := 657) hx hb dL_law_652 (by decide) (fun _ => ?_) (fun cn => absurd rfl cn)
  exact k657 u v F G M N _ _ hRl ok hPb hPm hS ls hl
set_option maxHeartbeats 4000000 in
set_option maxRecDepth 100000 in
/-- THE LAW'S LOOP -/
theorem law_loop {p : Program} {l : Launch} {e : Env} {s : State} {m : MethodId} {below : List Frame} {meth : Method} {c : Code} {D : va_G} {cI cZ : ClassId} {b L : Nat} {xs : Nat → Int32} (C0 : lw_At p s m meth c b L xs) {Rl : (Nat → Int32) → (Nat → Nat → Int32) → (Nat → Int32) → (Nat → Nat → Int32) → Prop} (hR_beads : lh_beads Rl) (hR_stitch : lh_stitch Rl) (hR_ring : lh_ring Rl) (hR_colour : lh_colour Rl) (hR_thread : lh_thread Rl) (hR_cell : lh_cell Rl) (hR_work : lh_work Rl) (hR_worked : lh_worked Rl) (hR_picked : lh_picked Rl) (hR_order : lh_order Rl) (hR_hang : lh_hang Rl) (hR_pull : lh_pull Rl) (hR_pulled : lh_pulled Rl) (hR_woven : lh_woven Rl) (hR_best : lh_best Rl) (hR_bought : lh_bought Rl) (hR_count : lh_count Rl) (hK : va_K D vwCl [(cI, FieldType.int), (cZ, FieldType.boolean)] s) (hN : nN s) (hL : L ≤ 3072) : ∀ (n j : Nat) (u v : Nat → Nat) (F : Nat → Int32) (G : Nat → Nat → Int32) (M : Nat → Int32) (N : Nat → Nat → Int32) (H : Heap) (locs : List Loc), j ≤ L → L + 1 ≤ j + n → Rl F G M N → lwOK s.heap.size cI cZ u v → va_P D vwCl (bdW cI u F G) H → va_P D vwCl (mW cI cZ v M N) H → va_S (fun q => s.heap.size ≤ q) s.heap H locs → ∀ ls : Array Slot, lv_has ls 4 [(0, .ref b), (1, .ref (u 90)), (2, .ref (v 99)), (3, .int (nI j))] → W p l e room_1 s m #[Value.ref b] below meth c H locs 59 8615 (lw_Z below #[Value.ref b] s) (F0 m 18 ls []) := by
  obtain ⟨hx, hb, hr, hml, hown, hts, hX, hbl, hlocks, hgv⟩ := id C0
  have hbA : ¬ (fun q : Nat => s.heap.size ≤ q) b := Nat.not_le.mpr hbl
  intro n
  induction n with
  | zero =>
    intro j u v F G M N H locs h1 h2
    exact absurd h2 (by omega)
  | succ n ih =>
    intro j u v F G M N H locs hjL hjn hRl ok hPb hPm hS ls hl
    refine lv_iload_n hx hb dL_law_18 rfl (lv_at hl 3 rfl) ?_
    refine lv_aload_n hx hb dL_law_19 rfl (lv_at hl 0 rfl) ?_
    refine va_slen hx hb hX hbl hbA hS dL_law_20 ?_
    refine lv_bipush (v := 6) hx hb dL_law_21 (by decide) ?_
    refine lv_isub hx hb dL_law_23 ?_
    refine lv_icmp_gt (tgt := 663) hx hb dL_law_24 (by decide) (fun c0 => ?_) (fun c0 => ?_)
    · refine lv_iconst (v := 1) hx hb dL_law_663 (by decide) ?_
      refine va_forget (fun q hq => hS.2.2 q hq) ?_
      exact lw_ret hx hb hr hlocks dL_law_664
    · have hj : j + 6 ≤ L := lw_lim hL hjL c0
      have i0 : vp_in (nI j) L := vp_in_nI (by omega) (by omega)
      have k657 : ∀ (u v : Nat → Nat) (F : Nat → Int32) (G : Nat → Nat → Int32) (M : Nat → Int32) (N : Nat → Nat → Int32) (H : Heap) (locs : List Loc), Rl F G M N → lwOK s.heap.size cI cZ u v → va_P D vwCl (bdW cI u F G) H → va_P D vwCl (mW cI cZ v M N) H → va_S (fun q => s.heap.size ≤ q) s.heap H locs → ∀ ls : Array Slot, lv_has ls 4 [(0, .ref b), (1, .ref (u 90)), (2, .ref (v 99)), (3, .int (nI j))] → W p l e room_1 s m #[Value.ref b] below meth c H locs 59 8615 (lw_Z below #[Value.ref b] s) (F0 m 657 ls []) := by
        intro u v F G M N H locs hRl ok hPb hPm hS ls hl
        refine lv_iinc (v := nI (j + 6)) (k := 3) (lv' := [(3, .int (nI (j + 6))), (0, .ref b), (1, .ref (u 90)), (2, .ref (v 99))]) hx hb dL_law_657 hl rfl (nI_add j 6) (by decide) rfl (fun ls hl => ?_)
        refine lv_goto (tgt := 18) hx hb dL_law_660 (by decide) ?_
        exact ih (j + 6) u v F G M N H locs hj (by omega) hRl ok hPb hPm hS ls (lv_sub hl [1, 2, 3, 0] rfl)
      obtain ⟨a0, e0⟩ : ∃ z : Int32, xs (nI j).toNatClampNeg = z := ⟨_, rfl⟩
      refine lv_aload_n hx hb dL_law_27 rfl (lv_at hl 0 rfl) ?_
      refine lv_iload_n hx hb dL_law_28 rfl (lv_at hl 3 rfl) ?_
      refine q_sld hx hb hX hbl hbA hS i0 e0 dL_law_29 ?_
      refine lv_bipush (v := 31) hx hb dL_law_30 (by decide) ?_
      refine lv_iand hx hb dL_law_32 ?_
      by_cases c1 : a0 &&& 31 = 0
      · refine lv_tableIn (tgt := 116) hx hb dL_law_33 (by rw [c1]; decide) (by rw [c1]; decide) (by rw [c1]; rfl) (by decide) ?_
        exact law_beads C0 hR_beads hK hN hL hj k657 u v F G M N H locs hRl ok hPb hPm hS ls hl
      by_cases c2 : a0 &&& 31 = 1
      · refine lv_tableIn (tgt := 199) hx hb dL_law_33 (by rw [c2]; decide) (by rw [c2]; decide) (by rw [c2]; rfl) (by decide) ?_
        exact law_stitch C0 hR_stitch hK hN hL hj k657 u v F G M N H locs hRl ok hPb hPm hS ls hl
      by_cases c3 : a0 &&& 31 = 2
      · refine lv_tableIn (tgt := 222) hx hb dL_law_33 (by rw [c3]; decide) (by rw [c3]; decide) (by rw [c3]; rfl) (by decide) ?_
        exact law_ring C0 hR_ring hK hN hL hj k657 u v F G M N H locs hRl ok hPb hPm hS ls hl
      by_cases c4 : a0 &&& 31 = 3
      · refine lv_tableIn (tgt := 245) hx hb dL_law_33 (by rw [c4]; decide) (by rw [c4]; decide) (by rw [c4]; rfl) (by decide) ?_
        exact law_colour C0 hR_colour hK hN hL hj k657 u v F G M N H locs hRl ok hPb hPm hS ls hl
      by_cases c5 : a0 &&& 31 = 4
      · refine lv_tableIn (tgt := 298) hx hb dL_law_33 (by rw [c5]; decide) (by rw [c5]; decide) (by rw [c5]; rfl) (by decide) ?_
        exact law_thread C0 hR_thread hK hN hL hj k657 u v F G M N H locs hRl ok hPb hPm hS ls hl
      by_cases c6 : a0 &&& 31 = 5
      · refine lv_tableIn (tgt := 331) hx hb dL_law_33 (by rw [c6]; decide) (by rw [c6]; decide) (by rw [c6]; rfl) (by decide) ?_
        exact law_cell C0 hR_cell hK hN hL hj k657 u v F G M N H locs hRl ok hPb hPm hS ls hl
      by_cases c7 : a0 &&& 31 = 6
      · refine lv_tableIn (tgt := 364) hx hb dL_law_33 (by rw [c7]; decide) (by rw [c7]; decide) (by rw [c7]; rfl) (by decide) ?_
        exact law_work C0 hR_work hK hN hL hj k657 u v F G M N H locs hRl ok hPb hPm hS ls hl
      by_cases c8 : a0 &&& 31 = 7
      · refine lv_tableIn (tgt := 387) hx hb dL_law_33 (by rw [c8]; decide) (by rw [c8]; decide) (by rw [c8]; rfl) (by decide) ?_
        exact law_worked C0 hR_worked hK hN hL hj k657 u v F G M N H locs hRl ok hPb hPm hS ls hl
      by_cases c9 : a0 &&& 31 = 8
      · refine lv_tableIn (tgt := 410) hx hb dL_law_33 (by rw [c9]; decide) (by rw [c9]; decide) (by rw [c9]; rfl) (by decide) ?_
        exact law_picked C0 hR_picked hK hN hL hj k657 u v F G M N H locs hRl ok hPb hPm hS ls hl
      by_cases c10 : a0 &&& 31 = 9
      · refine lv_tableIn (tgt := 443) hx hb dL_law_33 (by rw [c10]; decide) (by rw [c10]; decide) (by rw [c10]; rfl) (by decide) ?_
        exact law_order C0 hR_order hK hN hL hj k657 u v F G M N H locs hRl ok hPb hPm hS ls hl
      by_cases c11 : a0 &&& 31 = 10
      · refine lv_tableIn (tgt := 476) hx hb dL_law_33 (by rw [c11]; decide) (by rw [c11]; decide) (by rw [c11]; rfl) (by decide) ?_
        exact law_hang C0 hR_hang hK hN hL hj k657 u v F G M N H locs hRl ok hPb hPm hS ls hl
      by_cases c12 : a0 &&& 31 = 11
      · refine lv_tableIn (tgt := 499) hx hb dL_law_33 (by rw [c12]; decide) (by rw [c12]; decide) (by rw [c12]; rfl) (by decide) ?_
        exact law_pull C0 hR_pull hK hN hL hj k657 u v F G M N H locs hRl ok hPb hPm hS ls hl
      by_cases c13 : a0 &&& 31 = 12
      · refine lv_tableIn (tgt := 522) hx hb dL_law_33 (by rw [c13]; decide) (by rw [c13]; decide) (by rw [c13]; rfl) (by decide) ?_
        exact law_pulled C0 hR_pulled hK hN hL hj k657 u v F G M N H locs hRl ok hPb hPm hS ls hl
      by_cases c14 : a0 &&& 31 = 13
      · refine lv_tableIn (tgt := 555) hx hb dL_law_33 (by rw [c14]; decide) (by rw [c14]; decide) (by rw [c14]; rfl) (by decide) ?_
        exact law_woven C0 hR_woven hK hN hL hj k657 u v F G M N H locs hRl ok hPb hPm hS ls hl
      by_cases c15 : a0 &&& 31 = 14
      · refine lv_tableIn (tgt := 588) hx hb dL_law_33 (by rw [c15]; decide) (by rw [c15]; decide) (by rw [c15]; rfl) (by decide) ?_
        exact law_best C0 hR_best hK hN hL hj k657 u v F G M N H locs hRl ok hPb hPm hS ls hl
      by_cases c16 : a0 &&& 31 = 15
      · refine lv_tableIn (tgt := 601) hx hb dL_law_33 (by rw [c16]; decide) (by rw [c16]; decide) (by rw [c16]; rfl) (by decide) ?_
        exact law_bought C0 hR_bought hK hN hL hj k657 u v F G M N H locs hRl ok hPb hPm hS ls hl
      by_cases c17 : a0 &&& 31 = 16
      · refine lv_tableIn (tgt := 634) hx hb dL_law_33 (by rw [c17]; decide) (by rw [c17]; decide) (by rw [c17]; rfl) (by decide) ?_
        exact law_count C0 hR_count hK hN hL hj k657 u v F G M N H locs hRl ok hPb hPm hS ls hl
      refine lv_tableOut (tgt := 657) hx hb dL_law_33 (by have n0 := lv_neT (a := 0) c1 (by decide); have n1 := lv_neT (a := 1) c2 (by decide); have n2 := lv_neT (a := 2) c3 (by decide); have n3 := lv_neT (a := 3) c4 (by decide); have n4 := lv_neT (a := 4) c5 (by decide); have n5 := lv_neT (a := 5) c6 (by decide); have n6 := lv_neT (a := 6) c7 (by decide); have n7 := lv_neT (a := 7) c8 (by decide); have n8 := lv_neT (a := 8) c9 (by decide); have n9 := lv_neT (a := 9) c10 (by decide); have n10 := lv_neT (a := 10) c11 (by decide); have n11 := lv_neT (a := 11) c12 (by decide); have n12 := lv_neT (a := 12) c13 (by decide); have n13 := lv_neT (a := 13) c14 (by decide); have n14 := lv_neT (a := 14) c15 (by decide); have n15 := lv_neT (a := 15) c16 (by decide); have n16 := lv_neT (a := 16) c17 (by decide); omega) (by decide) ?_
      exact k657 u v F G M N H locs hRl ok hPb hPm hS ls hl
theorem lw_arr {s : State} {args : Array Value} (h : (Cond.arrayClass .int).before args s = true) : ∃ cI : ClassId, ArrOfT s cI .int ∧ va_RA s cI .int := by
  obtain ⟨cA, kA, comp, hf, hk, hkind⟩ := Cond.arrayClass_spec h
  exact ⟨cA, fun n z => ⟨fun k h => (by cases h), kA, hk, comp, hkind⟩, hf⟩
theorem lw_arrZ {s : State} {args : Array Value} (h : (Cond.arrayClass .boolean).before args s = true) : ∃ cI : ClassId, ArrOfT s cI .boolean ∧ va_RA s cI .boolean := by
  obtain ⟨cA, kA, comp, hf, hk, hkind⟩ := Cond.arrayClass_spec h
  exact ⟨cA, fun n z => ⟨fun k h => (by cases h), kA, hk, comp, hkind⟩, hf⟩
set_option maxHeartbeats 4000000 in
set_option maxRecDepth 100000 in
theorem whole_start_of {p : Program} {e : Env} {s : State} {m : MethodId} {below : List Frame} {meth : Method} {c : Code} (l : Launch) {b L : Nat} {xs : Nat → Int32} {Rl : (Nat → Int32) → (Nat → Nat → Int32) → (Nat → Int32) → (Nat → Nat → Int32) → Prop} (hR0 : Rl bF0 bG0 mF0 (mG0 144)) (hR_beads : lh_beads Rl) (hR_stitch : lh_stitch Rl) (hR_ring : lh_ring Rl) (hR_colour : lh_colour Rl) (hR_thread : lh_thread Rl) (hR_cell : lh_cell Rl) (hR_work : lh_work Rl) (hR_worked : lh_worked Rl) (hR_picked : lh_picked Rl) (hR_order : lh_order Rl) (hR_hang : lh_hang Rl) (hR_pull : lh_pull Rl) (hR_pulled : lh_pulled Rl) (hR_woven : lh_woven Rl) (hR_best : lh_best Rl) (hR_bought : lh_bought Rl) (hR_count : lh_count Rl) (hL : L ≤ 3072) (C0 : lw_At p s m meth c b L xs) : W p l e room_1 s m #[Value.ref b] below meth c s.heap [] 0 0 (lw_Z below #[Value.ref b] s) (entryFrame m ([Value.ref b] : List Value).toArray 4) := by
  obtain ⟨hx, hb, hr, hml, hown, hts, hX, hbl, hlocks, hgv⟩ := id C0
  have hA : ∀ q : Nat, s.heap.size ≤ q → (fun q : Nat => s.heap.size ≤ q) q := fun _ h => h
  obtain ⟨c0, iS0, hKn0⟩ := u_known (C := RX0) (T := TX0) (N := 8) (n := 8) hts lf_X0 (hts _ lwm_20)
  obtain ⟨c1, iS1, hKn1⟩ := u_known (C := RX1) (T := TX1) (N := 1) (n := 1) hts lf_X1 (hts _ lwm_11)
  obtain ⟨c2, iS2, hKn2⟩ := u_known (C := RX2) (T := TX2) (N := 2) (n := 2) hts lf_X2 (hts _ lwm_25)
  obtain ⟨c3, iS3, hKn3⟩ := u_known (C := RX3) (T := TX3) (N := 19) (n := 19) hts lf_X3 (hts _ lwm_16)
  obtain ⟨c4, iS4, hKn4⟩ := u_known (C := RX4) (T := TX4) (N := 4) (n := 4) hts lf_X4 (hts _ lwm_603)
  obtain ⟨c5, iS5, hKn5⟩ := u_known (C := RX5) (T := TX5) (N := 48) (n := 48) hts lf_X5 (hts _ lwm_607)
  obtain ⟨cI, hI1, hI2⟩ := lw_arr (hts _ lwm_4)
  obtain ⟨cZ, hZ1, hZ2⟩ := lw_arrZ (hts _ lwm_407)
  obtain ⟨D, hKc⟩ : ∃ D : va_G, ∀ (k : Nat) (q : vw_C), vwCl[k]? = some q → u_Kn s q.1 q.2.1 q.2.2 (D.1 k) (D.2 k) := by
    refine ⟨(fun k => if k = 0 then c0 else if k = 1 then c1 else if k = 2 then c2 else if k = 3 then c3 else if k = 4 then c4 else c5, fun k => if k = 0 then iS0 else if k = 1 then iS1 else if k = 2 then iS2 else if k = 3 then iS3 else if k = 4 then iS4 else iS5), ?_⟩
    intro k q hq
    match k, hq with
    | 0, hq => cases hq; exact hKn0
    | 1, hq => cases hq; exact hKn1
    | 2, hq => cases hq; exact hKn2
    | 3, hq => cases hq; exact hKn3
    | 4, hq => cases hq; exact hKn4
    | 5, hq => cases hq; exact hKn5
    | k + 6, hq => simp [vwCl] at hq
  have hS : va_S (fun q : Nat => s.heap.size ≤ q) s.heap s.heap [] := va_S.rf
  have hK : va_K D vwCl [(cI, FieldType.int), (cZ, FieldType.boolean)] s := by
    refine ⟨hKc, fun k q h => ?_⟩
    match k, h with
    | 0, h => cases h; exact ⟨hI1, hI2⟩
    | 1, h => cases h; exact ⟨hZ1, hZ2⟩
    | k + 2, h => simp at h
  have hK1 : va_K D vwCl [(cI, FieldType.int)] s := hK.sub [0] rfl
  have hN : nN s := ⟨va_Nw.of rfl (hts _ lwm_611), va_Nw.of rfl (hts _ lwm_612), va_Nw.of rfl (hts _ lwm_613)⟩
  have hNc : nC s := ⟨va_Nw.of rfl (hts _ lwm_614), va_Nw.of rfl (hts _ lwm_615)⟩
  have hP : va_P D vwCl [] s.heap := fun k q h => by simp at h
  have hD : va_D (fun q : Nat => s.heap.size ≤ q) [] := ⟨fun i j p q h => by simp at h, fun k q h => by simp at h⟩
  have hl := lv_entry ([.ref b]) (n := 4) (Nat.le_of_ble_eq_true rfl)
  rw [lg_entry_eq]
  generalize (lg_sl ([.ref b]) ++ List.replicate (4 - (lg_sl ([.ref b])).length) Slot.unset).toArray = ls at hl ⊢
  have hl : lv_has ls 4 [(0, .ref b)] := hl
  refine va_new (ci := 4) (fs := [.null, .null, .null, .null]) (C := RX4) (T := TX4) (N := 4) hx hb hts lf_X4 tyX4 tyX4_ok hown (hts _ lwm_602) (hts _ lwm_603) (hts _ lwm_84) hK hP hD hS hA rfl (fun j hj => by rcases (show j = 0 ∨ j = 1 ∨ j = 2 ∨ j = 3 by omega) with rfl | rfl | rfl | rfl <;> rfl) (Nat.le_of_ble_eq_true rfl) (Nat.le_of_ble_eq_true rfl) dL_law_0 (fun q0v H hP hD hS => ?_)
  have hP : va_P D vwCl [(q0v, .inr (4, [.null, .null, .null, .null]))] H := hP
  have hD : va_D (fun q : Nat => s.heap.size ≤ q) [(q0v, .inr (4, [.null, .null, .null, .null]))] := hD
  refine W.widen (k := 1) (n := 4) (by omega) (by omega) ?_
  refine lv_dup hx hb dL_law_3 rfl ?_
  have hFc := va_free (wc := [(q0v, .inr (4, [.null, .null, .null, .null]))]) hD hS hA [0] rfl
  refine va_callv (va_runI (As := []) (rest := [.ref q0v]) ⟨hx, hb, hml, hown, hts⟩ (mt_X4_init l D cI q0v H.size) (cwI 0 hts lG_X4_init rfl rfl rfl (hts _ lwm_84) (hts _ lwm_604) (hts _ lwm_605) rfl (by decide +kernel) ⟨Nat.le_of_ble_eq_true rfl, Nat.le_of_ble_eq_true rfl⟩) ⟨kb_X4, fun U hU hW => ⟨rfl, by rw [hU], by rw [hU]; exact hP, va_K.moved hW.alike hK1, nC_w hW hNc⟩⟩ rfl rfl hl.1 rfl (lv_room (Nat.le_of_ble_eq_true rfl)) dL_law_4 ⟨Nat.le_of_ble_eq_true rfl, Nat.le_of_ble_eq_true rfl⟩) hS (fun q _ h => hFc q h) hFc (fun u t H1 locs ht hvm hw hB hz1 hk1 hS => ?_)
  replace hw : u 90 = q0v := hw
  subst hw
  obtain ⟨hP1, hD1⟩ := hB
  rw [ht] at hP1
  have hP : va_P D vwCl (bdW cI u bF0 bG0) H1 := hP1
  have hD : va_D (fun q : Nat => s.heap.size ≤ q) (bdW cI u bF0 bG0) := hD1.weaken (fun _ q _ h => hFc q.1 h)
  clear hFc hk1 hz1 ht
  generalize H1 = H at hP hS ⊢
  refine W.widen (k := 32) (n := 4125) (by omega) (by omega) ?_
  refine lv_astore_n (lv' := [(1, .ref (u 90)), (0, .ref b)]) hx hb dL_law_7 rfl hl (by decide) rfl (fun ls hl => ?_)
  refine va_new (ci := 5) (fs := [.null, .int 0, .int 0, .null, .null, .null, .int 0, .int 0, .int 0, .null, .null, .null, .null, .null, .null, .null, .int 0, .int 0, .int 0, .int 0, .int 0, .null, .null, .int 0, .int 0, .int 0, .int 0, .int 0, .null, .null, .null, .int 0, .int 0, .int 0, .int 0, .int 0, .int 0, .int 0, .null, .null, .null, .null, .null, .null, .null, .null, .null, .null]) (C := RX5) (T := TX5) (N := 48) hx hb hts lf_X5 tyX5 tyX5_ok hown (hts _ lwm_606) (hts _ lwm_607) (hts _ lwm_422) hK hP hD hS hA rfl (fun j hj => by rcases (show j = 0 ∨ j = 1 ∨ j = 2 ∨ j = 3 ∨ j = 4 ∨ j = 5 ∨ j = 6 ∨ j = 7 ∨ j = 8 ∨ j = 9 ∨ j = 10 ∨ j = 11 ∨ j = 12 ∨ j = 13 ∨ j = 14 ∨ j = 15 ∨ j = 16 ∨ j = 17 ∨ j = 18 ∨ j = 19 ∨ j = 20 ∨ j = 21 ∨ j = 22 ∨ j = 23 ∨ j = 24 ∨ j = 25 ∨ j = 26 ∨ j = 27 ∨ j = 28 ∨ j = 29 ∨ j = 30 ∨ j = 31 ∨ j = 32 ∨ j = 33 ∨ j = 34 ∨ j = 35 ∨ j = 36 ∨ j = 37 ∨ j = 38 ∨ j = 39 ∨ j = 40 ∨ j = 41 ∨ j = 42 ∨ j = 43 ∨ j = 44 ∨ j = 45 ∨ j = 46 ∨ j = 47 by omega) with rfl | rfl | rfl | rfl | rfl | rfl | rfl | rfl | rfl | rfl | rfl | rfl | rfl | rfl | rfl | rfl | rfl | rfl | rfl | rfl | rfl | rfl | rfl | rfl | rfl | rfl | rfl | rfl | rfl | rfl | rfl | rfl | rfl | rfl | rfl | rfl | rfl | rfl | rfl | rfl | rfl | rfl | rfl | rfl | rfl | rfl | rfl | rfl <;> rfl) (Nat.le_of_ble_eq_true rfl) (Nat.le_of_ble_eq_true rfl) dL_law_8 (fun q1v H hP hD hS => ?_)
  refine W.widen (k := 33) (n := 4173) (by omega) (by omega) ?_
  refine lv_dup hx hb dL_law_11 rfl ?_
  have hPc : va_P D vwCl [(q1v, .inr (5, [.null, .int 0, .int 0, .null, .null, .null, .int 0, .int 0, .int 0, .null, .null, .null, .null, .null, .null, .null, .int 0, .int 0, .int 0, .int 0, .int 0, .null, .null, .int 0, .int 0, .int 0, .int 0, .int 0, .null, .null, .null, .int 0, .int 0, .int 0, .int 0, .int 0, .int 0, .int 0, .null, .null, .null, .null, .null, .null, .null, .null, .null, .null]))] H := hP.sub [32] rfl
  have hFc := va_free (wc := [(q1v, .inr (5, [.null, .int 0, .int 0, .null, .null, .null, .int 0, .int 0, .int 0, .null, .null, .null, .null, .null, .null, .null, .int 0, .int 0, .int 0, .int 0, .int 0, .null, .null, .int 0, .int 0, .int 0, .int 0, .int 0, .null, .null, .null, .int 0, .int 0, .int 0, .int 0, .int 0, .int 0, .int 0, .null, .null, .null, .null, .null, .null, .null, .null, .null, .null]))]) hD hS hA [32] rfl
  refine va_callv (va_runI (As := []) (rest := [.ref q1v]) ⟨hx, hb, hml, hown, hts⟩ (mt_X5_init l D cI cZ q1v H.size) (cwI 0 hts lG_X5_init rfl rfl rfl (hts _ lwm_422) (hts _ lwm_608) (hts _ lwm_609) rfl (by decide +kernel) ⟨Nat.le_of_ble_eq_true rfl, Nat.le_of_ble_eq_true rfl⟩) ⟨kb_X5, fun U hU hW => ⟨rfl, by rw [hU], by rw [hU]; exact hPc, va_K.moved hW.alike hK, trivial⟩⟩ rfl rfl hl.1 rfl (lv_room (Nat.le_of_ble_eq_true rfl)) dL_law_12 ⟨Nat.le_of_ble_eq_true rfl, Nat.le_of_ble_eq_true rfl⟩) hS (fun q _ h => hFc q h) hFc (fun v t H1 locs ht hvm hw hB hz1 hk1 hS => ?_)
  replace hw : v 99 = q1v := hw
  subst hw
  obtain ⟨hP1, hD1⟩ := hB
  rw [ht] at hP1
  obtain ⟨hP, hD⟩ := va_join (wr := bdW cI u bF0 bG0) (w1 := mW cI cZ v mF0 (mG0 144)) hP hD [32] [0, 1, 2, 3, 4, 5, 6, 7, 8, 9, 10, 11, 12, 13, 14, 15, 16, 17, 18, 19, 20, 21, 22, 23, 24, 25, 26, 27, 28, 29, 30, 31] rfl rfl (by decide) (by decide) hk1 hFc hP1 hD1
  clear hFc hk1 hz1 ht hP1 hD1 hPc
  generalize H1 = H at hP hS ⊢
  refine W.widen (k := 59) (n := 8615) (by omega) (by omega) ?_
  refine lv_astore_n (lv' := [(2, .ref (v 99)), (1, .ref (u 90)), (0, .ref b)]) hx hb dL_law_15 rfl hl (by decide) rfl (fun ls hl => ?_)
  refine lv_iconst (v := 0) hx hb dL_law_16 (by decide) ?_
  refine lv_istore_n (lv' := [(3, .int 0), (2, .ref (v 99)), (1, .ref (u 90)), (0, .ref b)]) hx hb dL_law_17 rfl hl (by decide) rfl (fun ls hl => ?_)
  have hPb : va_P D vwCl (bdW cI u bF0 bG0) H := hP.sub [0, 1, 2, 3, 4, 5, 6, 7, 8, 9, 10, 11, 12, 13, 14, 15, 16, 17, 18, 19, 20, 21, 22, 23, 24, 25, 26, 27, 28, 29, 30, 31] rfl
  have hPm : va_P D vwCl (mW cI cZ v mF0 (mG0 144)) H := hP.sub [32, 33, 34, 35, 36, 37, 38, 39, 40, 41, 42, 43, 44, 45, 46, 47, 48, 49, 50, 51, 52, 53, 54, 55, 56, 57, 58] rfl
  have hDb : va_D (fun q : Nat => s.heap.size ≤ q) (bdW cI u (fun _ => 0) (fun _ _ => 0)) := qDA (hD.sub (ws' := bdW cI u bF0 bG0) [0, 1, 2, 3, 4, 5, 6, 7, 8, 9, 10, 11, 12, 13, 14, 15, 16, 17, 18, 19, 20, 21, 22, 23, 24, 25, 26, 27, 28, 29, 30, 31] (by decide) rfl) rfl
  have hDm : va_D (fun q : Nat => s.heap.size ≤ q) (mW cI cZ v (fun _ => 0) (fun _ _ => 0)) := qDA (hD.sub (ws' := mW cI cZ v mF0 (mG0 144)) [32, 33, 34, 35, 36, 37, 38, 39, 40, 41, 42, 43, 44, 45, 46, 47, 48, 49, 50, 51, 52, 53, 54, 55, 56, 57, 58] (by decide) rfl) rfl
  have ok : lwOK s.heap.size cI cZ u v := by
    refine ⟨hDb.weaken (fun _ _ _ _ => trivial), hDm.weaken (fun _ _ _ _ => trivial), fun q h1 h2 => ?_, fun q h => ?_, fun q h => ?_⟩
    · obtain ⟨k1, x1, h1⟩ := h1
      obtain ⟨k2, x2, h2⟩ := h2
      obtain ⟨y1, h1⟩ := q_in (w1 := bdW cI u (fun _ => 0) (fun _ _ => 0)) (w2 := bdW cI u bF0 bG0) rfl h1
      obtain ⟨y2, h2⟩ := q_in (w1 := mW cI cZ v (fun _ => 0) (fun _ _ => 0)) (w2 := mW cI cZ v mF0 (mG0 144)) rfl h2
      have hlen : (bdW cI u bF0 bG0).length = 32 := rfl
      have hk1 : k1 < 32 := by rw [← hlen]; exact (List.getElem?_eq_some_iff.mp h1).1
      have g1 : (bdW cI u bF0 bG0 ++ mW cI cZ v mF0 (mG0 144))[k1]? = some (q, y1) := by rw [List.getElem?_append_left (by rw [hlen]; exact hk1)]; exact h1
      have g2 : (bdW cI u bF0 bG0 ++ mW cI cZ v mF0 (mG0 144))[32 + k2]? = some (q, y2) := by rw [List.getElem?_append_right (by rw [hlen]; omega), hlen, show 32 + k2 - 32 = k2 by omega]; exact h2
      have := hD.1 _ _ _ _ g1 g2 rfl
      omega
    · obtain ⟨k, x, h⟩ := h
      exact hDb.2 k _ h
    · obtain ⟨k, x, h⟩ := h
      exact hDm.2 k _ h
  exact law_loop C0 hR_beads hR_stitch hR_ring hR_colour hR_thread hR_cell hR_work hR_worked hR_picked hR_order hR_hang hR_pull hR_pulled hR_woven hR_best hR_bought hR_count hK hN hL (L + 1) 0 u v bF0 bG0 mF0 (mG0 144) H _ (Nat.zero_le L) (by omega) hR0 ok hPb hPm hS ls (lv_sub hl [3, 2, 1, 0] rfl)
