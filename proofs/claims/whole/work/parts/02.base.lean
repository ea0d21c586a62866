/-! what a state is: arrays by number, scalars under number 100; a mirror of a method is a function into Option, none where the machine would leave its arrays or the rounds run out -/
abbrev JS : Type := Nat → Nat → Int32
def jw2 (σ : JS) (k j : Nat) (v : Int32) : JS := fun a => if a = k then upd (σ k) j v else σ a
def jwA (σ : JS) (k : Nat) (f : Nat → Int32) : JS := fun a => if a = k then f else σ a
def jst {α : Type} (X : JS) (K : JS → Option α) : Option α := K X
def jrd {α : Type} (σ : JS) (k n : Nat) (i : Int32) (K : Int32 → Option α) : Option α := if i < 0 ∨ n ≤ i.toNatClampNeg then none else K (σ k i.toNatClampNeg)
def jwr {α : Type} (σ : JS) (k n : Nat) (i v : Int32) (K : JS → Option α) : Option α := if i < 0 ∨ n ≤ i.toNatClampNeg then none else K (jw2 σ k i.toNatClampNeg v)
def jbn {α β : Type} (o : Option β) (K : β → Option α) : Option α := match o with
  | none => none
  | some x => K x
def jzc {α : Type} (v : Int32) (K : Option α) : Option α := if v = 0 ∨ v = 1 then K else none
def jcp {α : Type} (σ : JS) (k0 n0 k1 n1 : Nat) (sp dp n : Int32) (K : JS → Option α) : Option α := if sp < 0 ∨ dp < 0 ∨ n < 0 ∨ n0 < sp.toNatClampNeg + n.toNatClampNeg ∨ n1 < dp.toNatClampNeg + n.toNatClampNeg then none else K (jwA σ k1 (va_cpy (σ k0) (σ k1) sp.toNatClampNeg dp.toNatClampNeg n.toNatClampNeg))
def jmn {α : Type} (x y : Int32) (K : Int32 → Option α) : Option α := K (if y < x then y else x)
theorem jmn_e {α : Type} {x y : Int32} {K : Int32 → Option α} {o : α} (h : jmn x y K = some o) : ∃ z, z = (if y < x then y else x) ∧ K z = some o := ⟨_, rfl, h⟩
theorem jst_e {α : Type} {X : JS} {K : JS → Option α} {o : α} (h : jst X K = some o) : ∃ σ1, σ1 = X ∧ K σ1 = some o := ⟨X, rfl, h⟩
theorem jrd_e {α : Type} {σ : JS} {k n : Nat} {i : Int32} {K : Int32 → Option α} {o : α} (h : jrd σ k n i K = some o) : vp_in i n ∧ ∃ x, x = σ k i.toNatClampNeg ∧ K x = some o := by
  unfold jrd at h
  by_cases hc : i < 0 ∨ n ≤ i.toNatClampNeg
  · rw [if_pos hc] at h; cases h
  · rw [if_neg hc] at h; exact ⟨hc, _, rfl, h⟩
theorem jwr_e {α : Type} {σ : JS} {k n : Nat} {i v : Int32} {K : JS → Option α} {o : α} (h : jwr σ k n i v K = some o) : vp_in i n ∧ ∃ σ1, σ1 = jw2 σ k i.toNatClampNeg v ∧ K σ1 = some o := by
  unfold jwr at h
  by_cases hc : i < 0 ∨ n ≤ i.toNatClampNeg
  · rw [if_pos hc] at h; cases h
  · rw [if_neg hc] at h; exact ⟨hc, _, rfl, h⟩
theorem jbn_e {α β : Type} {x : Option β} {K : β → Option α} {o : α} (h : jbn x K = some o) : ∃ y, x = some y ∧ K y = some o := by
  cases x with
  | none => cases h
  | some y => exact ⟨y, rfl, h⟩
theorem jzc_e {α : Type} {v : Int32} {K : Option α} {o : α} (h : jzc v K = some o) : (v = 0 ∨ v = 1) ∧ K = some o := by
  unfold jzc at h
  by_cases hc : v = 0 ∨ v = 1
  · rw [if_pos hc] at h; exact ⟨hc, h⟩
  · rw [if_neg hc] at h; cases h
theorem jcp_e {α : Type} {σ : JS} {k0 n0 k1 n1 : Nat} {sp dp n : Int32} {K : JS → Option α} {o : α} (h : jcp σ k0 n0 k1 n1 sp dp n K = some o) : ¬ sp < 0 ∧ ¬ dp < 0 ∧ ¬ n < 0 ∧ sp.toNatClampNeg + n.toNatClampNeg ≤ n0 ∧ dp.toNatClampNeg + n.toNatClampNeg ≤ n1 ∧ ∃ σ1, σ1 = jwA σ k1 (va_cpy (σ k0) (σ k1) sp.toNatClampNeg dp.toNatClampNeg n.toNatClampNeg) ∧ K σ1 = some o := by
  unfold jcp at h
  by_cases hc : sp < 0 ∨ dp < 0 ∨ n < 0 ∨ n0 < sp.toNatClampNeg + n.toNatClampNeg ∨ n1 < dp.toNatClampNeg + n.toNatClampNeg
  · rw [if_pos hc] at h; cases h
  · rw [if_neg hc] at h
    refine ⟨fun z => hc (Or.inl z), fun z => hc (Or.inr (Or.inl z)), fun z => hc (Or.inr (Or.inr (Or.inl z))), Nat.not_lt.mp fun z => hc (Or.inr (Or.inr (Or.inr (Or.inl z)))), Nat.not_lt.mp fun z => hc (Or.inr (Or.inr (Or.inr (Or.inr z)))), _, rfl, h⟩
theorem jit {α : Type} {c : Prop} {hd : Decidable c} {a b : Option α} {o : α} (h : (if c then a else b) = some o) (hc : c) : a = some o := by rwa [if_pos hc] at h
theorem jif {α : Type} {c : Prop} {hd : Decidable c} {a b : Option α} {o : α} (h : (if c then a else b) = some o) (hc : ¬ c) : b = some o := by rwa [if_neg hc] at h
theorem jsm {α : Type} {a o : α} (h : some a = some o) : o = a := (Option.some.inj h).symm
theorem jnz {v : Int32} (h : v = 0 ∨ v = 1) : narrow .boolean (.int v) = .int v := by
  rcases h with rfl | rfl <;> rfl
/-! the world of a walk -/
def jH (D : va_G) (tys : List (ClassId × FieldType)) (ws : va_W) (A : Nat → Prop) (H0 H : Heap) (locs : List Loc) (s : State) : Prop := va_P D vwCl ws H ∧ va_D A ws ∧ va_S A H0 H locs ∧ va_K D vwCl tys s
def jB (D : va_G) (tys : List (ClassId × FieldType)) (C : JS → va_W) (A : Nat → Prop) (u : JS) (t : State) : Prop := va_P D vwCl (C u) t.heap ∧ va_K D vwCl tys t ∧ va_D A (C u)
def jPre (D : va_G) (tys : List (ClassId × FieldType)) (ws : va_W) (N : State → Prop) (sz : Nat) (av : List Value) : Array Value → State → Prop := va_Pc av (fun U => U.heap.size = sz ∧ va_P D vwCl ws U.heap ∧ va_K D vwCl tys U ∧ va_D (fun _ => True) ws ∧ N U)
def jQi (D : va_G) (tys : List (ClassId × FieldType)) (C : JS → va_W) (A : Nat → Prop) (v : Int32) (σ : JS) : Array Value → State → Outcome → State → Prop := va_Qi (fun (r : Int32) (u : JS) => r = v ∧ u = σ) (jB D tys C A) A
def jQl (D : va_G) (tys : List (ClassId × FieldType)) (C : JS → va_W) (A : Nat → Prop) (v : Int64) (σ : JS) : Array Value → State → Outcome → State → Prop := va_Ql (fun (r : Int64) (u : JS) => r = v ∧ u = σ) (jB D tys C A) A
def jQv (D : va_G) (tys : List (ClassId × FieldType)) (C : JS → va_W) (A : Nat → Prop) (σ : JS) : Array Value → State → Outcome → State → Prop := va_Qv (fun (u : JS) => u = σ) (jB D tys C A) A
/-- a reading method: it answers, and the heap is as it was -/
def jSi (v : Int32) : Array Value → State → Outcome → State → Prop := fun _ st oc t => oc = .returned (some (.int v)) ∧ t.heap = st.heap
def jSl (v : Int64) : Array Value → State → Outcome → State → Prop := fun _ st oc t => oc = .returned (some (.long v)) ∧ t.heap = st.heap
section JR
variable {p : Program} {l : Launch} {e : Env} {R : Room} {s : State} {m : MethodId} {args : Array Value} {below : List Frame} {meth : Method} {c : Code} {H : Heap} {locs : List Loc} {cells slots : Nat} {Q : State → Prop}
variable {cc : ByteArray} {nL pc : Nat} {ls : Array Slot} {rest : List Value} {Ts : List Cond} {own : String} {D : va_G} {tys : List (ClassId × FieldType)} {ws ws' : va_W} {A : Nat → Prop} {H0 : Heap} {C : JS → va_W} {σ σ' : JS}
theorem j_iald (S : CallFix p m c cc nL s args Ts own) (hw : jH D tys ws A H0 H locs s) (q0 t0 : Nat) {a : Nat} {cA : ClassId} {n : Nat} {f : Nat → Int32} (ha : ws[q0]? = some (a, .inl (cA, n, .inl f))) (ht : tys[t0]? = some (cA, .int)) {i x : Int32} (hin : vp_in i n) (hx : x = f i.toNatClampNeg) (hdg : decode cc pc = .ok (.iaload, 1))
    (kk : W p l e R s m args below meth c H locs cells slots Q (F0 m (pc + 1) ls (.int x :: rest))) : W p l e R s m args below meth c H locs cells slots Q (F0 m pc ls (.int i :: .ref a :: rest)) := by
  subst hx
  exact va_iald S.1 S.2.1 hw.2.2.2 hw.1 q0 t0 ha ht hin hdg kk
theorem j_zald (S : CallFix p m c cc nL s args Ts own) (hw : jH D tys ws A H0 H locs s) (q0 t0 : Nat) {a : Nat} {cA : ClassId} {n : Nat} {f : Nat → Int32} (ha : ws[q0]? = some (a, .inl (cA, n, .inl f))) (ht : tys[t0]? = some (cA, .boolean)) {i x : Int32} (hin : vp_in i n) (hx : x = f i.toNatClampNeg) (hdg : decode cc pc = .ok (.baload, 1))
    (kk : W p l e R s m args below meth c H locs cells slots Q (F0 m (pc + 1) ls (.int x :: rest))) : W p l e R s m args below meth c H locs cells slots Q (F0 m pc ls (.int i :: .ref a :: rest)) := by
  subst hx
  exact va_zald S.1 S.2.1 hw.2.2.2 hw.1 q0 t0 ha ht hin hdg kk
theorem j_iast (S : CallFix p m c cc nL s args Ts own) (hw : jH D tys ws A H0 H locs s) (q0 t0 : Nat) {a : Nat} {cA : ClassId} {n : Nat} {f : Nat → Int32} (ha : ws[q0]? = some (a, .inl (cA, n, .inl f))) (ht : tys[t0]? = some (cA, .int)) {i v : Int32} (hin : vp_in i n) (hset : ws.set q0 (a, .inl (cA, n, .inl (upd f i.toNatClampNeg v))) = ws') (hdg : decode cc pc = .ok (.iastore, 1))
    (kk : ∀ (H1 : Heap) (locs1 : List Loc), jH D tys ws' A H0 H1 locs1 s → W p l e R s m args below meth c H1 locs1 cells slots Q (F0 m (pc + 1) ls rest)) : W p l e R s m args below meth c H locs cells slots Q (F0 m pc ls (.int v :: .int i :: .ref a :: rest)) := by
  subst hset
  exact va_iast S.1 S.2.1 hw.2.2.2 hw.1 hw.2.1 hw.2.2.1 q0 t0 ha ht hin hdg (fun H1 locs1 hP hD hS => kk H1 locs1 ⟨hP, hD, hS, hw.2.2.2⟩)
theorem j_zast (S : CallFix p m c cc nL s args Ts own) (hw : jH D tys ws A H0 H locs s) (q0 t0 : Nat) {a : Nat} {cA : ClassId} {n : Nat} {f : Nat → Int32} (ha : ws[q0]? = some (a, .inl (cA, n, .inl f))) (ht : tys[t0]? = some (cA, .boolean)) {i v : Int32} (hin : vp_in i n) (hv : vp_nar .boolean v = v) (hset : ws.set q0 (a, .inl (cA, n, .inl (upd f i.toNatClampNeg v))) = ws') (hdg : decode cc pc = .ok (.bastore, 1))
    (kk : ∀ (H1 : Heap) (locs1 : List Loc), jH D tys ws' A H0 H1 locs1 s → W p l e R s m args below meth c H1 locs1 cells slots Q (F0 m (pc + 1) ls rest)) : W p l e R s m args below meth c H locs cells slots Q (F0 m pc ls (.int v :: .int i :: .ref a :: rest)) := by
  subst hset
  refine va_zast S.1 S.2.1 hw.2.2.2 hw.1 hw.2.1 hw.2.2.1 q0 t0 ha ht hin hdg (fun H1 locs1 hP hD hS => kk H1 locs1 ⟨?_, ?_, hS, hw.2.2.2⟩)
  · rw [hv] at hP; exact hP
  · rw [hv] at hD; exact hD
theorem j_get (S : CallFix p m c cc nL s args Ts own) (hw : jH D tys ws A H0 H locs s) {C : String} {T : u_T} {N : Nat} (hin : ∀ w ∈ u_ws C T N, w ∈ Ts) (q0 ci k : Nat) {a index : Nat} {fs : List Value} (he : ws[q0]? = some (a, .inr (ci, fs))) (hc : vwCl[ci]? = some (C, T, N)) (hk : k < N) (hlink : Cond.fieldLink own index (T k).1 (T k).2.1 (T k).2.2.1 ∈ Ts) {v : Value} (hv : fs[k]? = some v) (hdg : decode cc pc = .ok (.getfield index, 3))
    (kk : W p l e R s m args below meth c H locs cells slots Q (F0 m (pc + 3) ls (v :: rest))) : W p l e R s m args below meth c H locs cells slots Q (F0 m pc ls (.ref a :: rest)) :=
  va_get S.1 S.2.1 S.2.2.2.2 hin S.2.2.2.1 hw.2.2.2 hw.1 q0 he hc k hk (S.2.2.2.2 _ hlink) (fun _ h9 => h9) hv hdg kk
theorem j_put (S : CallFix p m c cc nL s args Ts own) (hw : jH D tys ws A H0 H locs s) {C : String} {T : u_T} {N : Nat} (hin : ∀ w ∈ u_ws C T N, w ∈ Ts) (ty0 : Nat → FieldType) (hty : ∀ k, k < N → parseFieldDescriptor (T k).2.2.1 = some (ty0 k)) (hnm : ∀ a, a < N → ∀ b, b < N → a ≠ b → (T a).2.1 ≠ (T b).2.1) (q0 ci k : Nat) {a index : Nat} {fs : List Value} (he : ws[q0]? = some (a, .inr (ci, fs))) (hc : vwCl[ci]? = some (C, T, N)) (hk : k < N) (hlink : Cond.fieldLink own index (T k).1 (T k).2.1 (T k).2.2.1 ∈ Ts) (hfin : (T k).2.2.2 = false) {v : Value} (hn : narrow (ty0 k) v = v) (hfit : fits (ty0 k) v = true) (hl : k < fs.length) (hset : ws.set q0 (a, .inr (ci, fs.set k v)) = ws') (hdg : decode cc pc = .ok (.putfield index, 3))
    (kk : ∀ (H1 : Heap) (locs1 : List Loc), jH D tys ws' A H0 H1 locs1 s → W p l e R s m args below meth c H1 locs1 cells slots Q (F0 m (pc + 3) ls rest)) : W p l e R s m args below meth c H locs cells slots Q (F0 m pc ls (v :: .ref a :: rest)) := by
  subst hset
  exact va_put S.1 S.2.1 S.2.2.2.2 hin ty0 hty hnm S.2.2.2.1 hw.2.2.2 hw.1 hw.2.1 hw.2.2.1 q0 he hc k hk (S.2.2.2.2 _ hlink) (fun _ h9 => h9) hfin (hty k hk) hn hfit hl hdg (fun H1 locs1 hP hD hS => kk H1 locs1 ⟨hP, hD, hS, hw.2.2.2⟩)
/-- what a callee may write is the caller's to write -/
theorem j_free {A0 : Nat → Prop} (hw : jH D tys ws A0 H0 H locs s) (hA : ∀ q, H0.size ≤ q → A0 q) : ∀ q, va_A ws H.size q → A0 q := by
  intro q h
  rcases h with ⟨k, e, h⟩ | h
  · exact hw.2.1.2 k (q, e) h
  · exact hA q (Nat.le_trans hw.2.2.1.1 h)
theorem j_blind {N : State → Prop} {sz : Nat} {av : List Value} (hb : ∀ (U : State) (g : JFrame) (mk : MethodId) (a : Array Value), N U → N (U.calling g mk a)) : FrameBlind (jPre D tys ws N sz av) := by
  intro a U g mk q
  obtain ⟨q0, q1, qP, qK, qD, qN⟩ := q
  exact ⟨q0, q1, qP, va_K.moved (u := U) (U := U.calling g mk a) (Vm.Alike.refl U.vm) qK, qD, hb U g mk a qN⟩
theorem j_preS {N : State → Prop} {As : List Value} (hw : jH D tys ws A H0 H locs s) (hb : ∀ (U : State) (g : JFrame) (mk : MethodId) (a : Array Value), N U → N (U.calling g mk a)) (hN : ∀ U : State, U.heap = H → s.WarmedH U.vm → N U) : PreS s H (jPre D tys ws N H.size As) As :=
  ⟨j_blind hb, fun U hU hW => ⟨rfl, by rw [hU], by rw [hU]; exact hw.1, va_K.moved hW.alike hw.2.2.2, hw.2.1.weaken (fun _ _ _ _ => trivial), hN U hU hW⟩⟩
theorem j_preV {N : State → Prop} {As : List Value} (hw : jH D tys ws A H0 H locs s) (hb : ∀ (U : State) (g : JFrame) (mk : MethodId) (a : Array Value), N U → N (U.calling g mk a)) (hN : ∀ U : State, U.heap = H → s.WarmedH U.vm → N U) {a q0 ci : Nat} {q : vw_C} {fs : List Value} (hc : vwCl[ci]? = some q) (he : ws[q0]? = some (a, .inr (ci, fs))) : PreV s H q.1 a (jPre D tys ws N H.size (.ref a :: As)) As :=
  ⟨j_blind hb, va_recv hw.2.2.2 hw.1 hc he, fun U hU hW => ⟨rfl, by rw [hU], by rw [hU]; exact hw.1, va_K.moved hW.alike hw.2.2.2, hw.2.1.weaken (fun _ _ _ _ => trivial), hN U hU hW⟩⟩
theorem j_calli {av : Array Value} {st0 : List Value} {v : Int32} (hw : jH D tys (C σ) A H0 H locs s) (hA : ∀ q, H0.size ≤ q → A q) (hr : va_Run p l e R s m args below meth c H locs cells slots 0 0 (F0 m pc ls st0) rest (jQi D tys C (va_A (C σ) H.size) v σ' av) (va_A (C σ) H.size))
    (kk : ∀ (H1 : Heap) (locs1 : List Loc), jH D tys (C σ') A H0 H1 locs1 s → W p l e R s m args below meth c H1 locs1 cells slots Q (F0 m (pc + 3) ls (.int v :: rest))) : W p l e R s m args below meth c H locs cells slots Q (F0 m pc ls st0) := by
  refine va_calli hr hw.2.2.1 (fun q _ h => j_free hw hA q h) (j_free hw hA) (fun r u t H1 locs1 ht hvm hp hB hz hk hS => ?_)
  obtain ⟨rfl, rfl⟩ := hp
  obtain ⟨hP1, hK1, hD1⟩ := hB
  rw [ht] at hP1
  exact kk H1 locs1 ⟨hP1, hD1.weaken (fun _ _ _ h => j_free hw hA _ h), hS, hw.2.2.2⟩
theorem j_calll {av : Array Value} {st0 : List Value} {v : Int64} (hw : jH D tys (C σ) A H0 H locs s) (hA : ∀ q, H0.size ≤ q → A q) (hr : va_Run p l e R s m args below meth c H locs cells slots 0 0 (F0 m pc ls st0) rest (jQl D tys C (va_A (C σ) H.size) v σ' av) (va_A (C σ) H.size))
    (kk : ∀ (H1 : Heap) (locs1 : List Loc), jH D tys (C σ') A H0 H1 locs1 s → W p l e R s m args below meth c H1 locs1 cells slots Q (F0 m (pc + 3) ls (.long v :: rest))) : W p l e R s m args below meth c H locs cells slots Q (F0 m pc ls st0) := by
  refine va_calll hr hw.2.2.1 (fun q _ h => j_free hw hA q h) (j_free hw hA) (fun r u t H1 locs1 ht hvm hp hB hz hk hS => ?_)
  obtain ⟨rfl, rfl⟩ := hp
  obtain ⟨hP1, hK1, hD1⟩ := hB
  rw [ht] at hP1
  exact kk H1 locs1 ⟨hP1, hD1.weaken (fun _ _ _ h => j_free hw hA _ h), hS, hw.2.2.2⟩
theorem j_callv {av : Array Value} {st0 : List Value} (hw : jH D tys (C σ) A H0 H locs s) (hA : ∀ q, H0.size ≤ q → A q) (hr : va_Run p l e R s m args below meth c H locs cells slots 0 0 (F0 m pc ls st0) rest (jQv D tys C (va_A (C σ) H.size) σ' av) (va_A (C σ) H.size))
    (kk : ∀ (H1 : Heap) (locs1 : List Loc), jH D tys (C σ') A H0 H1 locs1 s → W p l e R s m args below meth c H1 locs1 cells slots Q (F0 m (pc + 3) ls rest)) : W p l e R s m args below meth c H locs cells slots Q (F0 m pc ls st0) := by
  refine va_callv hr hw.2.2.1 (fun q _ h => j_free hw hA q h) (j_free hw hA) (fun u t H1 locs1 ht hvm hp hB hz hk hS => ?_)
  obtain rfl := hp
  obtain ⟨hP1, hK1, hD1⟩ := hB
  rw [ht] at hP1
  exact kk H1 locs1 ⟨hP1, hD1.weaken (fun _ _ _ h => j_free hw hA _ h), hS, hw.2.2.2⟩
theorem j_cpi {av : Array Value} {st0 : List Value} {v : Int32} (hr : va_Run p l e R s m args below meth c H locs cells slots 0 0 (F0 m pc ls st0) rest (jSi v av) (fun _ => False))
    (kk : W p l e R s m args below meth c H locs cells slots Q (F0 m (pc + 3) ls (.int v :: rest))) : W p l e R s m args below meth c H locs cells slots Q (F0 m pc ls st0) := by
  intro T hT X
  obtain ⟨v9, st9, t, T1, L, h0, X1, hL, e1, e2, ⟨hv, hh⟩, st⟩ := hr T hT X
  cases hv
  have hL0 : L = [] := List.eq_nil_iff_forall_not_mem.mpr fun q hq => hL q hq
  subst hL0
  rw [List.append_nil] at X1
  obtain ⟨t2, a1, b1⟩ := kk T1 (by rw [e1, hh, h0]) X1
  exact ⟨t2, st t2 a1, b1⟩
theorem j_cpl {av : Array Value} {st0 : List Value} {v : Int64} (hr : va_Run p l e R s m args below meth c H locs cells slots 0 0 (F0 m pc ls st0) rest (jSl v av) (fun _ => False))
    (kk : W p l e R s m args below meth c H locs cells slots Q (F0 m (pc + 3) ls (.long v :: rest))) : W p l e R s m args below meth c H locs cells slots Q (F0 m pc ls st0) := by
  intro T hT X
  obtain ⟨v9, st9, t, T1, L, h0, X1, hL, e1, e2, ⟨hv, hh⟩, st⟩ := hr T hT X
  cases hv
  have hL0 : L = [] := List.eq_nil_iff_forall_not_mem.mpr fun q hq => hL q hq
  subst hL0
  rw [List.append_nil] at X1
  obtain ⟨t2, a1, b1⟩ := kk T1 (by rw [e1, hh, h0]) X1
  exact ⟨t2, st t2 a1, b1⟩
theorem j_ipr (S : CallFix p m c cc nL s args Ts own) (hr : meth.sig.returnType = some .int) (hlk : meth.locks = false) {v : Int32} (hdg : decode cc pc = .ok (.ireturn, 1)) : W p l e R s m args below meth c s.heap [] cells slots (MQ below (jSi v) args s cells slots (fun _ => False)) (F0 m pc ls [.int v]) :=
  W.iret (v := v) S.1 S.2.1 hr (fun t ht _ => ⟨rfl, ht⟩) (fun _ h => by cases h) hdg hlk
theorem j_zpr (S : CallFix p m c cc nL s args Ts own) (hr : meth.sig.returnType = some .boolean) (hlk : meth.locks = false) {v : Int32} (hn : v = 0 ∨ v = 1) (hdg : decode cc pc = .ok (.ireturn, 1)) : W p l e R s m args below meth c s.heap [] cells slots (MQ below (jSi v) args s cells slots (fun _ => False)) (F0 m pc ls [.int v]) :=
  W.zret (v := v) S.1 S.2.1 hr (jnz hn) (fun t ht _ => ⟨rfl, ht⟩) (fun _ h => by cases h) hdg hlk
theorem j_lpr (S : CallFix p m c cc nL s args Ts own) (hr : meth.sig.returnType = some .long) (hlk : meth.locks = false) {v : Int64} (hdg : decode cc pc = .ok (.lreturn, 1)) : W p l e R s m args below meth c s.heap [] cells slots (MQ below (jSl v) args s cells slots (fun _ => False)) (F0 m pc ls [.long v]) :=
  W.lret (v := v) S.1 S.2.1 hr (fun t ht _ => ⟨rfl, ht⟩) (fun _ h => by cases h) hdg hlk
theorem j_iret (S : CallFix p m c cc nL s args Ts own) (hw : jH D tys (C σ) A s.heap H locs s) (hr : meth.sig.returnType = some .int) (hlk : meth.locks = false) {v : Int32} (hdg : decode cc pc = .ok (.ireturn, 1)) : W p l e R s m args below meth c H locs cells slots (MQ below (jQi D tys C A v σ) args s cells slots A) (F0 m pc ls [.int v]) :=
  W.iret (v := v) S.1 S.2.1 hr (fun t ht hW => ⟨⟨v, σ, rfl, ⟨rfl, rfl⟩, by rw [ht]; exact hw.1, va_K.moved hW.alike hw.2.2.2, hw.2.1⟩, hw.2.2.1.F ht⟩) hw.2.2.1.2.2 hdg hlk
theorem j_zret (S : CallFix p m c cc nL s args Ts own) (hw : jH D tys (C σ) A s.heap H locs s) (hr : meth.sig.returnType = some .boolean) (hlk : meth.locks = false) {v : Int32} (hn : v = 0 ∨ v = 1) (hdg : decode cc pc = .ok (.ireturn, 1)) : W p l e R s m args below meth c H locs cells slots (MQ below (jQi D tys C A v σ) args s cells slots A) (F0 m pc ls [.int v]) :=
  W.zret (v := v) S.1 S.2.1 hr (jnz hn) (fun t ht hW => ⟨⟨v, σ, rfl, ⟨rfl, rfl⟩, by rw [ht]; exact hw.1, va_K.moved hW.alike hw.2.2.2, hw.2.1⟩, hw.2.2.1.F ht⟩) hw.2.2.1.2.2 hdg hlk
theorem j_lret (S : CallFix p m c cc nL s args Ts own) (hw : jH D tys (C σ) A s.heap H locs s) (hr : meth.sig.returnType = some .long) (hlk : meth.locks = false) {v : Int64} (hdg : decode cc pc = .ok (.lreturn, 1)) : W p l e R s m args below meth c H locs cells slots (MQ below (jQl D tys C A v σ) args s cells slots A) (F0 m pc ls [.long v]) :=
  W.lret (v := v) S.1 S.2.1 hr (fun t ht hW => ⟨⟨v, σ, rfl, ⟨rfl, rfl⟩, by rw [ht]; exact hw.1, va_K.moved hW.alike hw.2.2.2, hw.2.1⟩, hw.2.2.1.F ht⟩) hw.2.2.1.2.2 hdg hlk
theorem j_vret (S : CallFix p m c cc nL s args Ts own) (hw : jH D tys (C σ) A s.heap H locs s) (hr : meth.sig.returnType = none) (hlk : meth.locks = false) (hdg : decode cc pc = .ok (.return_, 1)) : W p l e R s m args below meth c H locs cells slots (MQ below (jQv D tys C A σ) args s cells slots A) (F0 m pc ls []) :=
  W.vret S.1 S.2.1 hr (fun t ht hW => ⟨⟨σ, rfl, rfl, by rw [ht]; exact hw.1, va_K.moved hW.alike hw.2.2.2, hw.2.1⟩, hw.2.2.1.F ht⟩) hw.2.2.1.2.2 hdg hlk
end JR
/-! what is carried beside a world: words of the tables that a call does not hand on, and what Throwable's statics hold: true in every state that differs from U in what A names alone -/
def jNl : List Cond := (lw_tbl.filter (fun w => !goodWord w)) ++ [.isRef (.static "java/lang/Throwable" "UNASSIGNED_STACK" "[Ljava/lang/StackTraceElement;"), .isRef (.static "java/lang/Throwable" "SUPPRESSED_SENTINEL" "Ljava/util/List;")]
def xN (A : Nat → Prop) (U : State) : Prop := ∀ w ∈ jNl, ∀ (T : State) (a : Array Value), U.WarmedH T.vm → U.heap.size ≤ T.heap.size → (∀ q : Nat, q < U.heap.size → ¬ A q → T.heap[q]? = U.heap[q]?) → w.before a T = true
def mN (_ : Nat → Prop) (_ : State) : Prop := True
theorem xN_b {A : Nat → Prop} (U : State) (g : JFrame) (mk : MethodId) (a : Array Value) (h : xN A U) : xN A (U.calling g mk a) := fun w hw T b hW hs hk => h w hw T b hW hs hk
theorem mN_b {A : Nat → Prop} (U : State) (g : JFrame) (mk : MethodId) (a : Array Value) (_ : mN A U) : mN A (U.calling g mk a) := trivial
theorem xN_to {D : va_G} {tys : List (ClassId × FieldType)} {ws : va_W} {A : Nat → Prop} {H : Heap} {locs : List Loc} {s : State} (h : xN A s) (hw : jH D tys ws A s.heap H locs s) (hA : ∀ q, s.heap.size ≤ q → A q) : ∀ U : State, U.heap = H → s.WarmedH U.vm → xN (va_A ws H.size) U := by
  intro U hU hW w hw1 T b hW2 hs hk
  refine h w hw1 T b (State.WarmedH.trans hW hW2) (Nat.le_trans hw.2.2.1.1 (by rw [← hU]; exact hs)) (fun q hq hnA => ?_)
  have h1 : q < U.heap.size := by rw [hU]; exact Nat.lt_of_lt_of_le hq hw.2.2.1.1
  rw [hk q h1 (fun z => hnA (j_free hw hA q z)), hU]
  exact hw.2.2.1.2.1 q hq hnA
theorem mN_to {D : va_G} {tys : List (ClassId × FieldType)} {ws : va_W} {A : Nat → Prop} {H : Heap} {locs : List Loc} {s : State} (_ : mN A s) (_ : jH D tys ws A s.heap H locs s) (_ : ∀ q, s.heap.size ≤ q → A q) : ∀ U : State, U.heap = H → s.WarmedH U.vm → mN (va_A ws H.size) U := fun _ _ _ => trivial
theorem xN_w {A : Nat → Prop} {s : State} (h : xN A s) {w : Cond} (hw : w ∈ jNl) (a : Array Value) : w.before a s = true := h w hw s a (State.WarmedH.refl s) (Nat.le_refl _) (fun _ _ _ => rfl)
theorem jNl_t {w : Cond} (i : Nat) (h : tables_1[i]? = some w) (g : goodWord w = false) : w ∈ jNl := List.mem_append_left _ (List.mem_filter.mpr ⟨List.mem_append_right _ (List.mem_of_getElem? h), by rw [g]; rfl⟩)
theorem jgV {own C : String} {idx maxL : Nat} {y : MethodName} {bytes : ByteArray} {ret : Option FieldType} (h1 : Cond.methodLink own idx y ∈ jall) (h2 : Cond.instanceMethod y ∈ jall) (h3 : Cond.selects C y y ∈ jall) (h4 : Cond.initialized C ∈ jall) (h5 : Cond.code y bytes maxL ret ∈ jall) : GoodIn jall (wsV own idx C y (.code y bytes maxL ret :: jall)) := by
  refine jall_G fun w hw => ?_
  unfold wsV at hw
  rcases List.mem_append.mp hw with h | h
  · simp only [List.mem_cons, List.not_mem_nil, or_false] at h
    rcases h with rfl | rfl | rfl | rfl <;> assumption
  · rcases List.mem_cons.mp h with rfl | h
    · exact h5
    · exact h
theorem jgS {own : String} {idx maxL : Nat} {y : MethodName} {bytes : ByteArray} {ret : Option FieldType} (h1 : Cond.methodLink own idx y ∈ jall) (h2 : Cond.static y ∈ jall) (h4 : Cond.initialized own ∈ jall) (h5 : Cond.code y bytes maxL ret ∈ jall) : GoodIn jall (wsS own idx y (.code y bytes maxL ret :: jall)) := by
  refine jall_G fun w hw => ?_
  unfold wsS at hw
  rcases List.mem_append.mp hw with h | h
  · simp only [List.mem_cons, List.not_mem_nil, or_false] at h
    rcases h with rfl | rfl | rfl <;> assumption
  · rcases List.mem_cons.mp h with rfl | h
    · exact h5
    · exact h
theorem jgN {maxL : Nat} {y : MethodName} {bytes : ByteArray} {ret : Option FieldType} (h5 : Cond.code y bytes maxL ret ∈ jall) : GoodIn jall (.code y bytes maxL ret :: jall) := by
  refine jall_G fun w hw => ?_
  rcases List.mem_cons.mp hw with rfl | h
  · exact h5
  · exact h
theorem j_inc (x : Int32) {n : Int} {w : Int32} (h : Int32.ofInt n = w) : x + Int32.ofInt n = x + w := by rw [h]
section JR2
variable {p : Program} {l : Launch} {e : Env} {R : Room} {s : State} {m : MethodId} {args : Array Value} {below : List Frame} {meth : Method} {c : Code} {H : Heap} {locs : List Loc} {cells slots : Nat} {Q : State → Prop}
variable {cc : ByteArray} {nL pc : Nat} {ls : Array Slot} {rest : List Value} {own : String} {D : va_G} {tys : List (ClassId × FieldType)} {ws ws' : va_W} {A : Nat → Prop} {H0 : Heap}
theorem j_copyi (S : CallFix p m c cc nL s args jall own) (hw : jH D tys ws A H0 H locs s) (hls : ls.size = nL) {index : Nat} (hlink : Cond.methodLink own index arraycopyName ∈ jall) (hnat : Cond.native arraycopyName ∈ jall) (hstat : Cond.static arraycopyName ∈ jall) (hini : Cond.initialized "java/lang/System" ∈ jall) (q0 q1 t0 t1 : Nat) {a a0 : Nat} {c0 c1 : ClassId} {n0 n1 : Nat} {f g : Nat → Int32} (ha0 : ws[q0]? = some (a0, .inl (c0, n0, .inl f))) (ha1 : ws[q1]? = some (a, .inl (c1, n1, .inl g))) (ht0 : tys[t0]? = some (c0, .int)) (ht1 : tys[t1]? = some (c1, .int))
    {sp dp n : Int32} (h1 : ¬ sp < 0) (h2 : ¬ dp < 0) (h3 : ¬ n < 0) (h4 : sp.toNatClampNeg + n.toNatClampNeg ≤ n0) (h5 : dp.toNatClampNeg + n.toNatClampNeg ≤ n1) (hset : ws.set q1 (a, .inl (c1, n1, .inl (va_cpy f g sp.toNatClampNeg dp.toNatClampNeg n.toNatClampNeg))) = ws')
    (hframes : 1 ≤ R.frames) (hlocals : (rest.map fun v => v.category).sum + (nativeFrameWords "java/lang/System" "arraycopy" 5 + 11) ≤ R.locals) (hdg : decode cc pc = .ok (.invokestatic index, 3))
    (kk : ∀ (H1 : Heap) (locs1 : List Loc), jH D tys ws' A H0 H1 locs1 s → W p l e R s m args below meth c H1 locs1 cells slots Q (F0 m (pc + 3) ls rest)) : W p l e R s m args below meth c H locs cells slots Q (F0 m pc ls (.int n :: .int dp :: .ref a :: .int sp :: .ref a0 :: rest)) := by
  subst hset
  exact va_copyi S.1 S.2.1 (S.2.2.1.trans hls.symm) S.2.2.2.1 (S.2.2.2.2 _ hlink) (S.2.2.2.2 _ hnat) (S.2.2.2.2 _ hstat) (S.2.2.2.2 _ hini) hw.2.2.2 hw.1 hw.2.1 hw.2.2.1 q0 q1 t0 t1 ha0 ha1 ht0 ht1 rfl h1 h2 h3 h4 h5 (fun _ _ => rfl) hframes hlocals hdg (fun H1 locs1 hP hD hS => kk H1 locs1 ⟨hP, hD, hS, hw.2.2.2⟩)
end JR2
