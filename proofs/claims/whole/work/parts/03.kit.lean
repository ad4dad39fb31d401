/-! the combinators of the pure programs: every step that can fail, or names a value, is one of these -/
def qn {β : Type} (x : Int32) (k : Int32 → Option β) : Option β := k x
def qf {β : Type} (F : Nat → Int32) (n : Nat) (v : Int32) (k : (Nat → Int32) → Option β) : Option β := k (upd F n v)
def qG (G : Nat → Nat → Int32) (n j : Nat) (v : Int32) : Nat → Nat → Int32 := fun i => if i = n then upd (G n) j v else G i
def ql {β : Type} (f : Nat → Int32) (N : Nat) (i : Int32) (k : Int32 → Option β) : Option β := if i < 0 ∨ N ≤ i.toNatClampNeg then none else k (f i.toNatClampNeg)
def qs {β : Type} (G : Nat → Nat → Int32) (n N : Nat) (i v : Int32) (k : (Nat → Nat → Int32) → Option β) : Option β := if i < 0 ∨ N ≤ i.toNatClampNeg then none else k (qG G n i.toNatClampNeg v)
/-- a store into an array of booleans -/
def qz {β : Type} (G : Nat → Nat → Int32) (n N : Nat) (i v : Int32) (k : (Nat → Nat → Int32) → Option β) : Option β := if i < 0 ∨ N ≤ i.toNatClampNeg then none else if v = 0 ∨ v = 1 then k (qG G n i.toNatClampNeg v) else none
def qc {α β : Type} (x : Option α) (k : α → Option β) : Option β := match x with
  | none => none
  | some a => k a
/-- a divisor that must not be 0 -/
def qd {β : Type} (y : Int32) (k : Option β) : Option β := if y = 0 then none else k
/-- an answer of a boolean method -/
def qb (x : Int32) : Option Int32 := if x = 0 ∨ x = 1 then some x else none
/-- what Arrays.fill leaves -/
def flf (f : Nat → Int32) (x : Int32) (i : Nat) : Nat → Int32 := fun j => if j < i then x else f j
def qGf (G : Nat → Nat → Int32) (n N : Nat) (x : Int32) : Nat → Nat → Int32 := fun i => if i = n then flf (G n) x N else G i
def qfl {β : Type} (G : Nat → Nat → Int32) (n N : Nat) (x : Int32) (k : (Nat → Nat → Int32) → Option β) : Option β := k (qGf G n N x)
/-- a part's new values among the old ones -/
def mx {α : Type} (b : Nat → Bool) (F Fa : Nat → α) : Nat → α := fun k => if b k = true then Fa k else F k
def qx {β : Type} (b : Nat → Bool) (F : Nat → Int32) (G : Nat → Nat → Int32) (Fa : Nat → Int32) (Ga : Nat → Nat → Int32) (k : (Nat → Int32) → (Nat → Nat → Int32) → Option β) : Option β := k (mx b F Fa) (mx b G Ga)
abbrev qS : Type := (Nat → Int32) × (Nat → Nat → Int32)
theorem q_some {α β : Type} {x : Option α} {k : α → Option β} {r : β} (h : qc x k = some r) : ∃ a, x = some a ∧ k a = some r := by
  cases x with
  | none => cases h
  | some a => exact ⟨a, rfl, h⟩
theorem q_inl {β : Type} {f : Nat → Int32} {N : Nat} {i : Int32} {k : Int32 → Option β} {r : β} (h : ql f N i k = some r) : vp_in i N ∧ k (f i.toNatClampNeg) = some r := by
  unfold ql at h
  split at h
  · cases h
  · rename_i hn
    exact ⟨hn, h⟩
theorem q_ins {β : Type} {G : Nat → Nat → Int32} {n N : Nat} {i v : Int32} {k : (Nat → Nat → Int32) → Option β} {r : β} (h : qs G n N i v k = some r) : vp_in i N ∧ k (qG G n i.toNatClampNeg v) = some r := by
  unfold qs at h
  split at h
  · cases h
  · rename_i hn
    exact ⟨hn, h⟩
theorem q_inz {β : Type} {G : Nat → Nat → Int32} {n N : Nat} {i v : Int32} {k : (Nat → Nat → Int32) → Option β} {r : β} (h : qz G n N i v k = some r) : vp_in i N ∧ (v = 0 ∨ v = 1) ∧ k (qG G n i.toNatClampNeg v) = some r := by
  unfold qz at h
  split at h
  · cases h
  · rename_i hn
    split at h
    · rename_i hv
      exact ⟨hn, hv, h⟩
    · cases h
theorem q_dv {β : Type} {y : Int32} {k : Option β} {r : β} (h : qd y k = some r) : ¬ y = 0 ∧ k = some r := by
  unfold qd at h
  split at h
  · cases h
  · rename_i hn
    exact ⟨hn, h⟩
theorem q_bo {x r : Int32} (h : qb x = some r) : x = r ∧ narrow .boolean (.int x) = .int x := by
  unfold qb at h
  split at h
  · rename_i hx
    refine ⟨Option.some.inj h, ?_⟩
    rcases hx with rfl | rfl <;> rfl
  · cases h
theorem q_nar {v : Int32} (h : v = 0 ∨ v = 1) : vp_nar .boolean v = v := by
  rcases h with rfl | rfl <;> rfl
theorem q_ite {β : Type} {c : Prop} {A B : Option β} {r : β} (d : Decidable c) (h : (@ite _ c d A B) = some r) : (c ∧ A = some r) ∨ (¬ c ∧ B = some r) := by
  by_cases q : c
  · rw [if_pos q] at h
    exact Or.inl ⟨q, h⟩
  · rw [if_neg q] at h
    exact Or.inr ⟨q, h⟩
section QK
variable {p : Program} {l : Launch} {e : Env} {R : Room} {s : State} {m : MethodId} {args : Array Value} {below : List Frame} {meth : Method} {c : Code} {H : Heap} {locs : List Loc} {cells slots : Nat} {Q : State → Prop}
variable {cc : ByteArray} {pc : Nat} {ls : Array Slot} {rest : List Value} {β : Type} {r : β}
theorem q_if_eq (hx : p.tables.exec = Jvm.exec) (hb : c.code = cc) {x : Int32} {off : Int} {tgt : Nat} (hdg : decode cc pc = .ok (.ifCond .eq off, 3)) (ht : (pc : Int) + off = (tgt : Int)) {A B : Option β} (h : (if x = 0 then A else B) = some r) (kt : A = some r → W p l e R s m args below meth c H locs cells slots Q (F0 m tgt ls rest)) (kf : B = some r → W p l e R s m args below meth c H locs cells slots Q (F0 m (pc + 3) ls rest)) : W p l e R s m args below meth c H locs cells slots Q (F0 m pc ls (.int x :: rest)) :=
  lv_if_eq hx hb hdg ht (fun q => kt (by rw [if_pos q] at h; exact h)) (fun q => kf (by rw [if_neg q] at h; exact h))
theorem q_icmp_eq (hx : p.tables.exec = Jvm.exec) (hb : c.code = cc) {x y : Int32} {off : Int} {tgt : Nat} (hdg : decode cc pc = .ok (.if_icmp .eq off, 3)) (ht : (pc : Int) + off = (tgt : Int)) {A B : Option β} (h : (if x = y then A else B) = some r) (kt : A = some r → W p l e R s m args below meth c H locs cells slots Q (F0 m tgt ls rest)) (kf : B = some r → W p l e R s m args below meth c H locs cells slots Q (F0 m (pc + 3) ls rest)) : W p l e R s m args below meth c H locs cells slots Q (F0 m pc ls (.int y :: .int x :: rest)) :=
  lv_icmp_eq hx hb hdg ht (fun q => kt (by rw [if_pos q] at h; exact h)) (fun q => kf (by rw [if_neg q] at h; exact h))
theorem q_if_ne (hx : p.tables.exec = Jvm.exec) (hb : c.code = cc) {x : Int32} {off : Int} {tgt : Nat} (hdg : decode cc pc = .ok (.ifCond .ne off, 3)) (ht : (pc : Int) + off = (tgt : Int)) {A B : Option β} (h : (if x = 0 then A else B) = some r) (kt : B = some r → W p l e R s m args below meth c H locs cells slots Q (F0 m tgt ls rest)) (kf : A = some r → W p l e R s m args below meth c H locs cells slots Q (F0 m (pc + 3) ls rest)) : W p l e R s m args below meth c H locs cells slots Q (F0 m pc ls (.int x :: rest)) :=
  lv_if_ne hx hb hdg ht (fun q => kt (by rw [if_neg q] at h; exact h)) (fun q => kf (by rw [if_pos q] at h; exact h))
theorem q_icmp_ne (hx : p.tables.exec = Jvm.exec) (hb : c.code = cc) {x y : Int32} {off : Int} {tgt : Nat} (hdg : decode cc pc = .ok (.if_icmp .ne off, 3)) (ht : (pc : Int) + off = (tgt : Int)) {A B : Option β} (h : (if x = y then A else B) = some r) (kt : B = some r → W p l e R s m args below meth c H locs cells slots Q (F0 m tgt ls rest)) (kf : A = some r → W p l e R s m args below meth c H locs cells slots Q (F0 m (pc + 3) ls rest)) : W p l e R s m args below meth c H locs cells slots Q (F0 m pc ls (.int y :: .int x :: rest)) :=
  lv_icmp_ne hx hb hdg ht (fun q => kt (by rw [if_neg q] at h; exact h)) (fun q => kf (by rw [if_pos q] at h; exact h))
theorem q_if_lt (hx : p.tables.exec = Jvm.exec) (hb : c.code = cc) {x : Int32} {off : Int} {tgt : Nat} (hdg : decode cc pc = .ok (.ifCond .lt off, 3)) (ht : (pc : Int) + off = (tgt : Int)) {A B : Option β} (h : (if x < 0 then A else B) = some r) (kt : A = some r → W p l e R s m args below meth c H locs cells slots Q (F0 m tgt ls rest)) (kf : B = some r → W p l e R s m args below meth c H locs cells slots Q (F0 m (pc + 3) ls rest)) : W p l e R s m args below meth c H locs cells slots Q (F0 m pc ls (.int x :: rest)) :=
  lv_if_lt hx hb hdg ht (fun q => kt (by rw [if_pos q] at h; exact h)) (fun q => kf (by rw [if_neg q] at h; exact h))
theorem q_icmp_lt (hx : p.tables.exec = Jvm.exec) (hb : c.code = cc) {x y : Int32} {off : Int} {tgt : Nat} (hdg : decode cc pc = .ok (.if_icmp .lt off, 3)) (ht : (pc : Int) + off = (tgt : Int)) {A B : Option β} (h : (if x < y then A else B) = some r) (kt : A = some r → W p l e R s m args below meth c H locs cells slots Q (F0 m tgt ls rest)) (kf : B = some r → W p l e R s m args below meth c H locs cells slots Q (F0 m (pc + 3) ls rest)) : W p l e R s m args below meth c H locs cells slots Q (F0 m pc ls (.int y :: .int x :: rest)) :=
  lv_icmp_lt hx hb hdg ht (fun q => kt (by rw [if_pos q] at h; exact h)) (fun q => kf (by rw [if_neg q] at h; exact h))
theorem q_if_ge (hx : p.tables.exec = Jvm.exec) (hb : c.code = cc) {x : Int32} {off : Int} {tgt : Nat} (hdg : decode cc pc = .ok (.ifCond .ge off, 3)) (ht : (pc : Int) + off = (tgt : Int)) {A B : Option β} (h : (if 0 ≤ x then A else B) = some r) (kt : A = some r → W p l e R s m args below meth c H locs cells slots Q (F0 m tgt ls rest)) (kf : B = some r → W p l e R s m args below meth c H locs cells slots Q (F0 m (pc + 3) ls rest)) : W p l e R s m args below meth c H locs cells slots Q (F0 m pc ls (.int x :: rest)) :=
  lv_if_ge hx hb hdg ht (fun q => kt (by rw [if_pos q] at h; exact h)) (fun q => kf (by rw [if_neg q] at h; exact h))
theorem q_icmp_ge (hx : p.tables.exec = Jvm.exec) (hb : c.code = cc) {x y : Int32} {off : Int} {tgt : Nat} (hdg : decode cc pc = .ok (.if_icmp .ge off, 3)) (ht : (pc : Int) + off = (tgt : Int)) {A B : Option β} (h : (if y ≤ x then A else B) = some r) (kt : A = some r → W p l e R s m args below meth c H locs cells slots Q (F0 m tgt ls rest)) (kf : B = some r → W p l e R s m args below meth c H locs cells slots Q (F0 m (pc + 3) ls rest)) : W p l e R s m args below meth c H locs cells slots Q (F0 m pc ls (.int y :: .int x :: rest)) :=
  lv_icmp_ge hx hb hdg ht (fun q => kt (by rw [if_pos q] at h; exact h)) (fun q => kf (by rw [if_neg q] at h; exact h))
theorem q_if_gt (hx : p.tables.exec = Jvm.exec) (hb : c.code = cc) {x : Int32} {off : Int} {tgt : Nat} (hdg : decode cc pc = .ok (.ifCond .gt off, 3)) (ht : (pc : Int) + off = (tgt : Int)) {A B : Option β} (h : (if 0 < x then A else B) = some r) (kt : A = some r → W p l e R s m args below meth c H locs cells slots Q (F0 m tgt ls rest)) (kf : B = some r → W p l e R s m args below meth c H locs cells slots Q (F0 m (pc + 3) ls rest)) : W p l e R s m args below meth c H locs cells slots Q (F0 m pc ls (.int x :: rest)) :=
  lv_if_gt hx hb hdg ht (fun q => kt (by rw [if_pos q] at h; exact h)) (fun q => kf (by rw [if_neg q] at h; exact h))
theorem q_icmp_gt (hx : p.tables.exec = Jvm.exec) (hb : c.code = cc) {x y : Int32} {off : Int} {tgt : Nat} (hdg : decode cc pc = .ok (.if_icmp .gt off, 3)) (ht : (pc : Int) + off = (tgt : Int)) {A B : Option β} (h : (if y < x then A else B) = some r) (kt : A = some r → W p l e R s m args below meth c H locs cells slots Q (F0 m tgt ls rest)) (kf : B = some r → W p l e R s m args below meth c H locs cells slots Q (F0 m (pc + 3) ls rest)) : W p l e R s m args below meth c H locs cells slots Q (F0 m pc ls (.int y :: .int x :: rest)) :=
  lv_icmp_gt hx hb hdg ht (fun q => kt (by rw [if_pos q] at h; exact h)) (fun q => kf (by rw [if_neg q] at h; exact h))
theorem q_if_le (hx : p.tables.exec = Jvm.exec) (hb : c.code = cc) {x : Int32} {off : Int} {tgt : Nat} (hdg : decode cc pc = .ok (.ifCond .le off, 3)) (ht : (pc : Int) + off = (tgt : Int)) {A B : Option β} (h : (if x ≤ 0 then A else B) = some r) (kt : A = some r → W p l e R s m args below meth c H locs cells slots Q (F0 m tgt ls rest)) (kf : B = some r → W p l e R s m args below meth c H locs cells slots Q (F0 m (pc + 3) ls rest)) : W p l e R s m args below meth c H locs cells slots Q (F0 m pc ls (.int x :: rest)) :=
  lv_if_le hx hb hdg ht (fun q => kt (by rw [if_pos q] at h; exact h)) (fun q => kf (by rw [if_neg q] at h; exact h))
theorem q_icmp_le (hx : p.tables.exec = Jvm.exec) (hb : c.code = cc) {x y : Int32} {off : Int} {tgt : Nat} (hdg : decode cc pc = .ok (.if_icmp .le off, 3)) (ht : (pc : Int) + off = (tgt : Int)) {A B : Option β} (h : (if x ≤ y then A else B) = some r) (kt : A = some r → W p l e R s m args below meth c H locs cells slots Q (F0 m tgt ls rest)) (kf : B = some r → W p l e R s m args below meth c H locs cells slots Q (F0 m (pc + 3) ls rest)) : W p l e R s m args below meth c H locs cells slots Q (F0 m pc ls (.int y :: .int x :: rest)) :=
  lv_icmp_le hx hb hdg ht (fun q => kt (by rw [if_pos q] at h; exact h)) (fun q => kf (by rw [if_neg q] at h; exact h))
theorem q_nm {x : Int32} {k : Int32 → Option β} (h : qn x k = some r) (kk : ∀ v : Int32, k v = some r → W p l e R s m args below meth c H locs cells slots Q (F0 m pc ls (.int v :: rest))) : W p l e R s m args below meth c H locs cells slots Q (F0 m pc ls (.int x :: rest)) := kk x h
theorem q_iinc (hx : p.tables.exec = Jvm.exec) (hb : c.code = cc) {i nL j : Nat} {n : Int} {x d : Int32} {lv : List (Nat × Value)} {lv2 : Int32 → List (Nat × Value)} (hdg : decode cc pc = .ok (.iinc i n, 3)) (hl : lv_has ls nL lv) (hk : lv[j]? = some (i, .int x)) (hd : Int32.ofInt n = d) (hn : i < nL) (hs : ∀ v : Int32, (i, Value.int v) :: lv.filter (fun q => !(q.1 == i) && !(q.1 + 1 == i && q.2.category == 2)) = lv2 v) {k : Int32 → Option β} (h : qn (x + d) k = some r) (kk : ∀ (v : Int32) (ls2 : Array Slot), lv_has ls2 nL (lv2 v) → k v = some r → W p l e R s m args below meth c H locs cells slots Q (F0 m (pc + 3) ls2 rest)) : W p l e R s m args below meth c H locs cells slots Q (F0 m pc ls rest) :=
  lv_iinc hx hb hdg hl hk (by rw [hd]) hn (hs (x + d)) (fun ls2 hl2 => kk (x + d) ls2 hl2 h)
variable {D : va_G} {cl : List vw_C} {A : Nat → Prop} {a : Nat} {tys : List (ClassId × FieldType)} {ws : va_W} {H0 : Heap}
theorem q_ld (hx : p.tables.exec = Jvm.exec) (hb : c.code = cc) (hK : va_K D cl tys s) (hP : va_P D cl ws H) (q0 t0 : Nat) {cA : ClassId} {N : Nat} {f : Nat → Int32} (ha : ws[q0]? = some (a, .inl (cA, N, .inl f))) (ht : tys[t0]? = some (cA, .int)) {i : Int32} (hdg : decode cc pc = .ok (.iaload, 1)) {k : Int32 → Option β} (h : ql f N i k = some r) (kk : ∀ v : Int32, k v = some r → W p l e R s m args below meth c H locs cells slots Q (F0 m (pc + 1) ls (.int v :: rest))) : W p l e R s m args below meth c H locs cells slots Q (F0 m pc ls (.int i :: .ref a :: rest)) :=
  va_iald hx hb hK hP q0 t0 ha ht (q_inl h).1 hdg (kk _ (q_inl h).2)
theorem q_ldz (hx : p.tables.exec = Jvm.exec) (hb : c.code = cc) (hK : va_K D cl tys s) (hP : va_P D cl ws H) (q0 t0 : Nat) {cA : ClassId} {N : Nat} {f : Nat → Int32} (ha : ws[q0]? = some (a, .inl (cA, N, .inl f))) (ht : tys[t0]? = some (cA, .boolean)) {i : Int32} (hdg : decode cc pc = .ok (.baload, 1)) {k : Int32 → Option β} (h : ql f N i k = some r) (kk : ∀ v : Int32, k v = some r → W p l e R s m args below meth c H locs cells slots Q (F0 m (pc + 1) ls (.int v :: rest))) : W p l e R s m args below meth c H locs cells slots Q (F0 m pc ls (.int i :: .ref a :: rest)) :=
  va_zald hx hb hK hP q0 t0 ha ht (q_inl h).1 hdg (kk _ (q_inl h).2)
theorem q_st (hx : p.tables.exec = Jvm.exec) (hb : c.code = cc) (hK : va_K D cl tys s) (hP : va_P D cl ws H) (hD : va_D A ws) (hS : va_S A H0 H locs) (q0 t0 n : Nat) {cA : ClassId} {N : Nat} {G : Nat → Nat → Int32} (Wd : (Nat → Nat → Int32) → va_W) (ha : ws[q0]? = some (a, .inl (cA, N, .inl (G n)))) (ht : tys[t0]? = some (cA, .int)) {i x : Int32} (hset : ∀ j : Nat, ws.set q0 (a, .inl (cA, N, .inl (upd (G n) j x))) = Wd (qG G n j x)) (hdg : decode cc pc = .ok (.iastore, 1)) {k : (Nat → Nat → Int32) → Option β} (h : qs G n N i x k = some r) (kk : ∀ (G1 : Nat → Nat → Int32) (H1 : Heap) (locs1 : List Loc), k G1 = some r → va_P D cl (Wd G1) H1 → va_S A H0 H1 locs1 → W p l e R s m args below meth c H1 locs1 cells slots Q (F0 m (pc + 1) ls rest)) : W p l e R s m args below meth c H locs cells slots Q (F0 m pc ls (.int x :: .int i :: .ref a :: rest)) :=
  va_iast hx hb hK hP hD hS q0 t0 ha ht (q_ins h).1 hdg (fun H1 locs1 hP1 _ hS1 => kk _ H1 locs1 (q_ins h).2 (by rw [← hset]; exact hP1) hS1)
theorem q_stz (hx : p.tables.exec = Jvm.exec) (hb : c.code = cc) (hK : va_K D cl tys s) (hP : va_P D cl ws H) (hD : va_D A ws) (hS : va_S A H0 H locs) (q0 t0 n : Nat) {cA : ClassId} {N : Nat} {G : Nat → Nat → Int32} (Wd : (Nat → Nat → Int32) → va_W) (ha : ws[q0]? = some (a, .inl (cA, N, .inl (G n)))) (ht : tys[t0]? = some (cA, .boolean)) {i x : Int32} (hset : ∀ j : Nat, ws.set q0 (a, .inl (cA, N, .inl (upd (G n) j x))) = Wd (qG G n j x)) (hdg : decode cc pc = .ok (.bastore, 1)) {k : (Nat → Nat → Int32) → Option β} (h : qz G n N i x k = some r) (kk : ∀ (G1 : Nat → Nat → Int32) (H1 : Heap) (locs1 : List Loc), k G1 = some r → va_P D cl (Wd G1) H1 → va_S A H0 H1 locs1 → W p l e R s m args below meth c H1 locs1 cells slots Q (F0 m (pc + 1) ls rest)) : W p l e R s m args below meth c H locs cells slots Q (F0 m pc ls (.int x :: .int i :: .ref a :: rest)) :=
  va_zast hx hb hK hP hD hS q0 t0 ha ht (q_inz h).1 hdg (fun H1 locs1 hP1 _ hS1 => kk _ H1 locs1 (q_inz h).2.2 (by rw [← hset]; rw [q_nar (q_inz h).2.1] at hP1; exact hP1) hS1)
theorem q_put (hx : p.tables.exec = Jvm.exec) (hb : c.code = cc) {own ref C : String} {T : u_T} {N ci index : Nat} {Ts : List Cond} (hts : ∀ w ∈ Ts, w.before args s = true) (hin : ∀ w ∈ u_ws C T N, w ∈ Ts) (ty0 : Nat → FieldType) (hty : ∀ k, k < N → parseFieldDescriptor (T k).2.2.1 = some (ty0 k)) (hnm : ∀ a, a < N → ∀ b, b < N → a ≠ b → (T a).2.1 ≠ (T b).2.1) (hown : s.vm.findClass own = some m.cls) (hK : va_K D cl tys s) (hP : va_P D cl ws H) (hD : va_D A ws) (hS : va_S A H0 H locs) (q0 n : Nat) {fs : List Value} (Wd : (Nat → Int32) → va_W) {F : Nat → Int32} {v : Int32} (he : ws[q0]? = some (a, .inr (ci, fs))) (hc : cl[ci]? = some (C, T, N)) (k : Nat) (hk : k < N) (hlink : (Cond.fieldLink own index ref (T k).2.1 (T k).2.2.1).before args s = true) (hsame : ∀ x, s.fieldFound? (T k).1 (T k).2.1 (T k).2.2.1 = some x → s.fieldFound? ref (T k).2.1 (T k).2.2.1 = some x) (hfin : (T k).2.2.2 = false) {ty : FieldType} (hd : parseFieldDescriptor (T k).2.2.1 = some ty) (hn : narrow ty (.int v) = .int v) (hfit : fits ty (.int v) = true) (hl : k < fs.length) (hset : ws.set q0 (a, .inr (ci, fs.set k (.int v))) = Wd (upd F n v)) (hdg : decode cc pc = .ok (.putfield index, 3)) {kf : (Nat → Int32) → Option β} (h : qf F n v kf = some r) (kk : ∀ (F1 : Nat → Int32) (H1 : Heap) (locs1 : List Loc), kf F1 = some r → va_P D cl (Wd F1) H1 → va_S A H0 H1 locs1 → W p l e R s m args below meth c H1 locs1 cells slots Q (F0 m (pc + 3) ls rest)) : W p l e R s m args below meth c H locs cells slots Q (F0 m pc ls (.int v :: .ref a :: rest)) :=
  va_put hx hb hts hin ty0 hty hnm hown hK hP hD hS q0 he hc k hk hlink hsame hfin hd hn hfit hl hdg (fun H1 locs1 hP1 _ hS1 => kk _ H1 locs1 h (by rw [← hset]; exact hP1) hS1)
theorem q_cs {rv : Int32} {aa : Array Value} {st0 : List Value} (hr : CallRun p l e R s m args below meth c H locs cells slots 0 0 (F0 m pc ls st0) rest (vp_Si (fun z => z = rv) aa) (fun _ => False)) (kk : W p l e R s m args below meth c H locs cells slots Q (F0 m (pc + 3) ls (.int rv :: rest))) : W p l e R s m args below meth c H locs cells slots Q (F0 m pc ls st0) := vp_callSi hr (fun z hz => by rw [hz]; exact kk)
theorem q_ci {rv : Int32} {aa : Array Value} {st0 : List Value} {ws1 : va_W} (hr : va_Run p l e R s m args below meth c H locs cells slots 0 0 (F0 m pc ls st0) rest (va_Qi (fun z (_ : Unit) => z = rv) (fun _ t => va_P D cl ws1 t.heap) A aa) A) (hS : va_S A H0 H locs) (kk : ∀ (H1 : Heap) (locs1 : List Loc), va_P D cl ws1 H1 → va_S A H0 H1 locs1 → W p l e R s m args below meth c H1 locs1 cells slots Q (F0 m (pc + 3) ls (.int rv :: rest))) : W p l e R s m args below meth c H locs cells slots Q (F0 m pc ls st0) :=
  va_calli hr hS (fun _ _ h => h) (fun _ h => h) (fun z u t H1 locs1 ht _ hz hB _ _ hS1 => by subst ht; rw [hz]; exact kk _ locs1 hB hS1)
theorem q_cv {aa : Array Value} {st0 : List Value} {ws1 : va_W} (hr : va_Run p l e R s m args below meth c H locs cells slots 0 0 (F0 m pc ls st0) rest (va_Qv (fun (_ : Unit) => True) (fun _ t => va_P D cl ws1 t.heap) A aa) A) (hS : va_S A H0 H locs) (kk : ∀ (H1 : Heap) (locs1 : List Loc), va_P D cl ws1 H1 → va_S A H0 H1 locs1 → W p l e R s m args below meth c H1 locs1 cells slots Q (F0 m (pc + 3) ls rest)) : W p l e R s m args below meth c H locs cells slots Q (F0 m pc ls st0) :=
  va_callv hr hS (fun _ _ h => h) (fun _ h => h) (fun u t H1 locs1 ht _ _ hB _ _ hS1 => by subst ht; exact kk _ locs1 hB hS1)
theorem q_fl {x : Int32} {G : Nat → Nat → Int32} {n N : Nat} {Wd : (Nat → Nat → Int32) → va_W} {aa : Array Value} {st0 : List Value} {ws1 : va_W} (hr : va_Run p l e R s m args below meth c H locs cells slots 0 0 (F0 m pc ls st0) rest (va_Qv (fun (_ : Unit) => True) (fun _ t => va_P D cl ws1 t.heap) A aa) A) (he : ws1 = Wd (qGf G n N x)) (hS : va_S A H0 H locs) {k : (Nat → Nat → Int32) → Option β} (h : qfl G n N x k = some r) (kk : ∀ (G1 : Nat → Nat → Int32) (H1 : Heap) (locs1 : List Loc), k G1 = some r → va_P D cl (Wd G1) H1 → va_S A H0 H1 locs1 → W p l e R s m args below meth c H1 locs1 cells slots Q (F0 m (pc + 3) ls rest)) : W p l e R s m args below meth c H locs cells slots Q (F0 m pc ls st0) :=
  q_cv hr hS (fun H1 locs1 hP1 hS1 => kk _ H1 locs1 h (by rw [← he]; exact hP1) hS1)
theorem q_si {A1 : Nat → Prop} {F Fa : Nat → Int32} {G Ga : Nat → Nat → Int32} {b : Nat → Bool} {Wd : (Nat → Int32) → (Nat → Nat → Int32) → va_W} {rv : Int32} {aa : Array Value} {st0 : List Value} {ws1 : va_W} (hr : va_Run p l e R s m args below meth c H locs cells slots 0 0 (F0 m pc ls st0) rest (va_Qi (fun z (_ : Unit) => z = rv) (fun _ t => va_P D cl ws1 t.heap) A1 aa) A1) (hA : ∀ q, A1 q → A q) (hS : va_S A H0 H locs) (back : ∀ H1 : Heap, va_P D cl ws1 H1 → (∀ q : Nat, q < H.size → ¬ A1 q → H1[q]? = H[q]?) → va_P D cl (Wd (mx b F Fa) (mx b G Ga)) H1) {k : (Nat → Int32) → (Nat → Nat → Int32) → Option β} (h : qx b F G Fa Ga k = some r) (kk : ∀ (F1 : Nat → Int32) (G1 : Nat → Nat → Int32) (H1 : Heap) (locs1 : List Loc), k F1 G1 = some r → va_P D cl (Wd F1 G1) H1 → va_S A H0 H1 locs1 → W p l e R s m args below meth c H1 locs1 cells slots Q (F0 m (pc + 3) ls (.int rv :: rest))) : W p l e R s m args below meth c H locs cells slots Q (F0 m pc ls st0) :=
  va_calli hr hS (fun q _ h => hA q h) hA (fun z u t H1 locs1 ht _ hz hB _ hk hS1 => by subst ht; rw [hz]; exact kk _ _ _ locs1 h (back _ hB hk) hS1)
theorem q_sv {A1 : Nat → Prop} {F Fa : Nat → Int32} {G Ga : Nat → Nat → Int32} {b : Nat → Bool} {Wd : (Nat → Int32) → (Nat → Nat → Int32) → va_W} {aa : Array Value} {st0 : List Value} {ws1 : va_W} (hr : va_Run p l e R s m args below meth c H locs cells slots 0 0 (F0 m pc ls st0) rest (va_Qv (fun (_ : Unit) => True) (fun _ t => va_P D cl ws1 t.heap) A1 aa) A1) (hA : ∀ q, A1 q → A q) (hS : va_S A H0 H locs) (back : ∀ H1 : Heap, va_P D cl ws1 H1 → (∀ q : Nat, q < H.size → ¬ A1 q → H1[q]? = H[q]?) → va_P D cl (Wd (mx b F Fa) (mx b G Ga)) H1) {k : (Nat → Int32) → (Nat → Nat → Int32) → Option β} (h : qx b F G Fa Ga k = some r) (kk : ∀ (F1 : Nat → Int32) (G1 : Nat → Nat → Int32) (H1 : Heap) (locs1 : List Loc), k F1 G1 = some r → va_P D cl (Wd F1 G1) H1 → va_S A H0 H1 locs1 → W p l e R s m args below meth c H1 locs1 cells slots Q (F0 m (pc + 3) ls rest)) : W p l e R s m args below meth c H locs cells slots Q (F0 m pc ls st0) :=
  va_callv hr hS (fun q _ h => hA q h) hA (fun u t H1 locs1 ht _ _ hB _ hk hS1 => by subst ht; exact kk _ _ _ locs1 h (back _ hB hk) hS1)
end QK
theorem flf_s (f : Nat → Int32) (x : Int32) (i : Nat) : upd (flf f x i) i x = flf f x (i + 1) := by
  funext j
  unfold upd flf
  by_cases h : j = i
  · subst h
    rw [if_pos rfl, if_pos (Nat.lt_succ_self _)]
  · rw [if_neg h]
    by_cases h2 : j < i
    · rw [if_pos h2, if_pos (by omega)]
    · rw [if_neg h2, if_neg (by omega)]
theorem flf_0 (f : Nat → Int32) (x : Int32) : flf f x 0 = f := by
  funext j
  unfold flf
  rw [if_neg (Nat.not_lt_zero j)]
theorem fill_p {D : va_G} {cI : ClassId} {ws : va_W} {s : State} {H : Heap} {av : List Value} (hP : va_P D vwCl ws H) (hK : va_K D vwCl [(cI, FieldType.int)] s) : PreS s H (va_Pc av (fun U => va_P D vwCl ws U.heap ∧ va_K D vwCl [(cI, FieldType.int)] U)) av :=
  ⟨fun aa U g mk q => ⟨q.1, q.2.1, va_K.moved (u := U) (U := U.calling g mk aa) (Vm.Alike.refl U.vm) q.2.2⟩, fun U hU hW => ⟨rfl, by rw [hU]; exact hP, va_K.moved hW.alike hK⟩⟩
set_option maxHeartbeats 4000000 in
set_option maxRecDepth 100000 in
/-- Arrays.fill(a, x), a at place k of any world -/
theorem mt_fill (l : Launch) (D : va_G) (cI : ClassId) (x : Int32) {ws : va_W} {A : Nat → Prop} {k a N : Nat} {f : Nat → Int32} (hk : ws[k]? = some (a, .inl (cI, N, .inl f))) (hD : va_D A ws) (hN : N < 2 ^ 31) : Met l yJ7_fill_53178 wsJ7_fill_53178 ({ frames := 0, cells := 0, slots := 0, locals := 0 } : Room) (va_Pc [.ref a, .int x] (fun U => va_P D vwCl ws U.heap ∧ va_K D vwCl [(cI, FieldType.int)] U)) (va_Qv (fun (_ : Unit) => True) (fun _ t => va_P D vwCl (ws.set k (a, .inl (cI, N, .inl (flf f x N)))) t.heap) A) 0 0 A := by
  refine Met.ofW (cc := cJ7_fill_53178) (maxL := 4) (ret := none) (by decide) rfl ?_
  intro p e s m args below meth c s₁ B hml hv
  obtain ⟨rfl, hP, hK⟩ := hv
  have hx := B.exec
  have hb := B.bytes
  have hr := B.returns
  have hlocks := B.notSynchronized
  have hS : va_S A s.heap s.heap [] := va_S.rf
  have hl := lv_entry ([.ref a, .int x]) (n := 4) (Nat.le_of_ble_eq_true rfl)
  rw [lg_entry_eq]
  generalize (lg_sl ([.ref a, .int x]) ++ List.replicate (4 - (lg_sl ([.ref a, .int x])).length) Slot.unset).toArray = ls at hl ⊢
  have hl : lv_has ls 4 [(0, .ref a), (1, .int x)] := hl
  have hlt : k < ws.length := (List.getElem?_eq_some_iff.mp hk).1
  have j5 : ∀ (n i : Nat) (H : Heap) (locs : List Loc), i ≤ N → N + 1 ≤ i + n → va_P D vwCl (ws.set k (a, .inl (cI, N, .inl (flf f x i)))) H → va_S A s.heap H locs → ∀ ls : Array Slot, lv_has ls 4 [(0, .ref a), (1, .int x), (2, .int (nI i)), (3, .int (nI N))] → W p l e (headSpec wsJ7_fill_53178 ({ frames := 0, cells := 0, slots := 0, locals := 0 } : Room)).room s m (List.toArray ([.ref a, .int x] : List Value)) below meth c H locs 0 0 (MQ below (va_Qv (fun (_ : Unit) => True) (fun _ t => va_P D vwCl (ws.set k (a, .inl (cI, N, .inl (flf f x N)))) t.heap) A) (List.toArray ([.ref a, .int x] : List Value)) s 0 0 A) (F0 m 5 ls []) := by
    intro n
    induction n with
    | zero =>
      intro i H locs h1 h2
      exact absurd h2 (by omega)
    | succ n ih =>
      intro i H locs h1 h2 hP hS ls hl
      refine lv_iload_n hx hb dJ7_fill_53178_5 rfl (lv_at hl 2 rfl) ?_
      refine lv_iload_n hx hb dJ7_fill_53178_6 rfl (lv_at hl 3 rfl) ?_
      refine lv_icmp_ge (tgt := 20) hx hb dJ7_fill_53178_7 (by decide) (fun c0 => ?_) (fun c0 => ?_)
      · have hi : i = N := by
          rcases Nat.lt_or_ge i N with q | q
          · exact absurd c0 (nI_ge q hN)
          · omega
        subst hi
        exact W.vret hx hb hr (fun t ht hW => ⟨⟨(), rfl, trivial, by show va_P D vwCl _ t.heap; rw [ht]; exact hP⟩, hS.F ht⟩) hS.2.2 dJ7_fill_53178_20
      · have hi : i < N := by
          rcases Nat.lt_or_ge i N with q | q
          · exact q
          · exact absurd (nI_le q (by omega)) c0
        refine lv_aload_n hx hb dJ7_fill_53178_10 rfl (lv_at hl 0 rfl) ?_
        refine lv_iload_n hx hb dJ7_fill_53178_11 rfl (lv_at hl 2 rfl) ?_
        refine lv_iload_n hx hb dJ7_fill_53178_12 rfl (lv_at hl 1 rfl) ?_
        refine va_iast hx hb hK hP (hD.set hk) hS k 0 (List.getElem?_set_self hlt) rfl (vp_in_nI hi hN) dJ7_fill_53178_13 (fun H locs hP _ hS => ?_)
        rw [List.set_set, nI_clamp (by omega), flf_s] at hP
        refine lv_iinc (v := nI (i + 1)) (k := 2) (lv' := [(2, .int (nI (i + 1))), (0, .ref a), (1, .int x), (3, .int (nI N))]) hx hb dJ7_fill_53178_14 hl rfl (nI_1 i) (by decide) rfl (fun ls hl => ?_)
        refine lv_goto (tgt := 5) hx hb dJ7_fill_53178_17 (by decide) ?_
        exact ih (i + 1) H locs hi (by omega) hP hS ls (lv_sub hl [1, 2, 0, 3] rfl)
  refine lv_iconst (v := 0) hx hb dJ7_fill_53178_0 (by decide) ?_
  refine lv_istore_n (lv' := [(2, .int 0), (0, .ref a), (1, .int x)]) hx hb dJ7_fill_53178_1 rfl hl (by decide) rfl (fun ls hl => ?_)
  refine lv_aload_n hx hb dJ7_fill_53178_2 rfl (lv_at hl 1 rfl) ?_
  refine va_alen (v := nI N) hx hb hK hP k 0 hk rfl rfl dJ7_fill_53178_3 ?_
  refine lv_istore_n (lv' := [(3, .int (nI N)), (2, .int 0), (0, .ref a), (1, .int x)]) hx hb dJ7_fill_53178_4 rfl hl (by decide) rfl (fun ls hl => ?_)
  refine j5 (N + 1) 0 _ _ (Nat.zero_le N) (by omega) ?_ hS ls ?_
  · rw [flf_0]
    have e : ws.set k (a, .inl (cI, N, .inl f)) = ws := by
      rw [← (List.getElem?_eq_some_iff.mp hk).2]
      exact List.set_getElem_self hlt
    rw [e]
    exact hP
  · exact lv_sub hl [2, 3, 1, 0] rfl
