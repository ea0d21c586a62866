/-! throws: a method's mirror tells which way it goes; a contract for each way -/
def jE (k : Nat) : String := if k = 1 then "java/lang/IllegalArgumentException" else "java/lang/IllegalStateException"
/-- the end of an invocation that threw -/
def jxO (E : String) (B : State → Prop) (A : Nat → Prop) (mc ms : Nat) (st : State) (o : Outcome) (t : State) : Prop := ∃ (q : Addr) (ce : Cell) (L : List Loc), o = .threw q ∧ t.heap[q]? = some ce ∧ ce.vm = .none ∧ st.vm.findClass E = some ce.cls ∧ st.WarmedH t.vm ∧ st.sameButNew ({ t with vm := st.vm } : State) L mc ms ∧ (∀ z ∈ L, A z.base) ∧ B t ∧ va_F A st t
def jxQ (below : List Frame) (s : State) (E : String) (B : State → Prop) (A : Nat → Prop) (mc ms : Nat) : State → Prop := fun t => ∃ o, t.status = .running ∧ Ended t below o ∧ jxO E B A mc ms s o t
def jxM (l : Launch) (y : MethodName) (ws : List Cond) (rm : Room) (Pc : Array Value → State → Prop) (E : String) (B : State → Prop) (A : Nat → Prop) (mc ms : Nat) : Prop := MetFree l y (headSpec ws rm) Pc (fun _ _ _ _ _ => True) (fun _ st o t => jxO E B A mc ms st o t)
theorem jxM_of {l : Launch} {y : MethodName} {ws ws' : List Cond} {rm : Room} {Pc : Array Value → State → Prop} {E : String} {B : State → Prop} {A : Nat → Prop} {mc ms : Nat} {cc : ByteArray} {maxL : Nat} {ret : Option FieldType} (hy : plainName y.cls = true) (hw : ws = Cond.code y cc maxL ret :: ws')
    (body : ∀ p e s m args below meth c s₁, BodyLoose p l y (headSpec ws rm) cc maxL ret e s m args below meth c s₁ → c.maxLocals = maxL → (∀ x ∈ c.exceptionTable.toList, False) → Pc args s → W p l e (headSpec ws rm).room s m args below meth c s.heap [] 0 0 (jxQ below s E B A mc ms) (entryFrame m args maxL)) : jxM l y ws rm Pc E B A mc ms := by
  refine MetFree.of_bodyS (code := cc) (maxLocals := maxL) (ret := ret) hy ?_ ?_
  · intro args s m h hn
    obtain ⟨meth, c, h1, h2, h3, h4, h5, h6, -, -⟩ := Cond.code_spec hn (atoms_spec (ws := ws) h _ (by rw [hw]; exact List.mem_cons_self))
    exact ⟨meth, c, h1, h2, h3, h4, h5, h6⟩
  · intro p e s m args below meth c s₁ B9 hml hP _
    have X := Stand.of_body B9
    have hnil : ∀ x ∈ c.exceptionTable.toList, False := by
      obtain ⟨meth9, c9, h1, h2, -, -, -, -, h7, -⟩ := Cond.code_spec B9.named (atoms_spec (ws := ws) B9.pre _ (by rw [hw]; exact List.mem_cons_self))
      have e1 : meth9 = meth := Option.some.inj (h1.symm.trans B9.method)
      subst e1
      have e2 : c9 = c := Option.some.inj (h2.symm.trans X.code)
      subst e2
      intro x hx
      rw [Array.isEmpty_iff.mp h7] at hx
      cases hx
    obtain ⟨t, a1, o, b1, b2, b3⟩ := body p e s m args below meth c s₁ B9 hml hnil hP s₁ (by rw [B9.state]; rfl) X
    exact ⟨t, o, a1, b1, b2, b3⟩
/-- old cells stay where nothing was written -/
theorem jx_kept {s U : State} {k n : Nat} (h : s.sameButNew ({ U with vm := s.vm } : State) [] k n) : s.heap.size ≤ U.heap.size ∧ ∀ q : Nat, q < s.heap.size → U.heap[q]? = s.heap[q]? := by
  obtain ⟨-, h2, -, -, -, h6⟩ := h
  refine ⟨h2, fun q hq => ?_⟩
  obtain ⟨c9, e1, e2, -, e4⟩ := h6 q _ (Array.getElem?_eq_getElem hq)
  have hs : c9.slots = (s.heap[q]).slots := Array.ext_getElem? fun i => e4 i (fun h => by cases h)
  rw [hs] at e2
  have e5 : U.heap[q]? = some c9 := e1
  rw [e5, Array.getElem?_eq_getElem hq, e2]
section JX
variable {p : Program} {l : Launch} {e : Env} {R : Room} {s : State} {m : MethodId} {args : Array Value} {below : List Frame} {meth : Method} {c : Code} {H : Heap} {locs : List Loc} {cells slots : Nat} {Q : State → Prop}
variable {cc : ByteArray} {nL pc : Nat} {ls : Array Slot} {rest : List Value} {own : String} {D : va_G} {tys : List (ClassId × FieldType)} {ws ws' : va_W} {A : Nat → Prop} {H0 : Heap} {C : JS → va_W} {σ σ' : JS}
/-- 'throw new E()' where nothing has been written yet -/
theorem jx_throw (hx : p.tables.exec = Jvm.exec) (hb : c.code = cc) (hl9 : l.stackTraces = false) {cls : String} {names : List String} {ik ic mc ms : Nat} {B : State → Prop} (hown : s.vm.findClass own = some m.cls) (hcls : Bundle.fit cls = true) (hnames : ∀ n ∈ names, Bundle.fit n = true) (hk : (Cond.classLink own ik cls).before args s = true) (hini : (Cond.initialized cls).before args s = true) (h : ∀ a ∈ Bundle.ownAtoms0 own ic cls names, a.before args s = true) (hsize : ls.size = c.maxLocals)
    (d0 : decode cc pc = .ok (.new ik, 3)) (d3 : decode cc (pc + 3) = .ok (.dup, 1)) (d4 : decode cc (pc + 4) = .ok (.invokespecial ic, 3)) (d7 : decode cc (pc + 7) = .ok (.athrow, 1)) (hnil : ∀ x ∈ c.exceptionTable.toList, False)
    (hRf : names.length + 3 < R.frames) (hRl : (rest.map fun v => v.category).sum + (13 * (names.length + 1) + 42) ≤ R.locals) (hRc : 1 ≤ R.cells) (hRs : 6 ≤ R.slots) (hlk : meth.locks = false) (hmc : 1 ≤ mc) (hms : 6 ≤ ms)
    (hB : ∀ t : State, s.vm.Alike t.vm → s.heap.size ≤ t.heap.size → (∀ q : Nat, q < s.heap.size → t.heap[q]? = s.heap[q]?) → B t) : W p l e R s m args below meth c s.heap [] 0 0 (jxQ below s cls B A mc ms) (F0 m pc ls rest) := by
  have hins : (Cond.instantiable cls 6).before args s = true := h _ (by simp [Bundle.ownAtoms0])
  refine W.newc hx hb (g := F0 m pc ls rest) hown hk hins hini rfl d0 (by omega) (by omega) (fun cC kC hfC hkC _ _ => ?_)
  show W p l e R s m args below meth c (s.heap.push { cls := cC, slots := kC.instanceTypes.map defaultValue, vm := .none }) [] (0 + 1) (0 + 6) (jxQ below s cls B A mc ms) (F0 m (pc + 3) ls (.ref s.heap.size :: rest))
  refine lv_dup hx hb d3 rfl ?_
  intro T hT X
  have htr : e.platform.stackTraces = false := (show e.platform.stackTraces = l.stackTraces by rw [X.admits.platform]).trans hl9
  have hcell : T.heap[s.heap.size]? = some (freshCell cC kC) := by rw [hT]; exact Array.getElem?_push_size
  obtain ⟨U, hst, hrun, hend, hW, hsm, ce, hce, hO⟩ := X.ctorThrow0 hx htr (own := own) (cls := cls) (names := names) (ic := ic) hown hcls hnames h (fun _ hx => by cases hx) hfC hkC hcell (Nat.le_refl _) (g := F0 m (pc + 4) ls (.ref s.heap.size :: .ref s.heap.size :: rest)) rfl hsize rfl rfl (rest := rest) rfl
    (by rw [hb]; exact d4) (by rw [hb]; exact d7) (fun x hx => (hnil x hx).elim) hRf (by simp only [List.map_cons, List.sum_cons]; show 2 * 0 + (1 + _) + _ ≤ _; omega) hlk
  obtain ⟨k1, k2⟩ := jx_kept hsm
  exact ⟨U, hst, .threw s.heap.size, hrun, hend, s.heap.size, ce, [], rfl, hce, hO.vm, hO.cls, hW, hsm.mono (by omega) (by omega), (fun _ h => by cases h), hB U hW.alike k1 k2, k1, fun q hq _ => k2 q hq⟩
/-- the method's frame g, with q thrown over it -/
def jxW (p : Program) (l : Launch) (e : Env) (R : Room) (s : State) (m : MethodId) (args : Array Value) (below : List Frame) (meth : Method) (c : Code) (H : Heap) (locs : List Loc) (cells slots : Nat) (Q : State → Prop) (g : JFrame) (q : Addr) : Prop :=
  ∀ T : State, T.heap = H → Stand p l e R s m args below meth c T locs cells slots → ∃ t, Steps p.tables e below ((T.setTop g).pushFrame (.throwing q)) t ∧ Q t
/-- what comes out of a call that throws is thrown on -/
theorem jx_out (hnil : ∀ x ∈ c.exceptionTable.toList, False) (hlk : meth.locks = false) {q : Addr} {ce : Cell} {E : String} {B : State → Prop} {mc ms : Nat} (hce : H[q]? = some ce) (hv : ce.vm = .none) (hcl : s.vm.findClass E = some ce.cls) (hL : ∀ z ∈ locs, A z.base) (hB : ∀ t : State, t.heap = H → s.vm.Alike t.vm → B t) (hS : va_S A s.heap H locs) (hmc : cells ≤ mc) (hms : slots ≤ ms) :
    jxW p l e R s m args below meth c H locs cells slots (jxQ below s E B A mc ms) (F0 m pc ls rest) q := by
  intro T hT X
  obtain ⟨h1, h2, h3, h4, h5⟩ := X.leaveThrown q (g := F0 m pc ls rest) rfl rfl rfl (fun x hx => (hnil x hx).elim) hlk
  refine ⟨_, h1, .threw q, h2, h3, q, ce, locs, rfl, ?_, hv, hcl, h4, h5.mono hmc hms, hL, hB _ hT h4.alike, hS.F hT⟩
  show T.heap[q]? = some ce
  rw [hT]
  exact hce
/-- a call that throws: the frame stands as it stood, its arguments gone, what was thrown over it -/
theorem jx_callV {y : MethodName} {bytes : ByteArray} {maxL n index : Nat} {ret : Option FieldType} {wsy : List Cond} {rm : Room} {Pc : Array Value → State → Prop} {E : String} {B : State → Prop} {A1 : Nat → Prop} {Cn : String} {b : Addr} {As : List Value} (S : CallFix p m c cc nL s args jall own) (hM : jxM l y wsy rm Pc E B A1 1 6) (cw : CallW R s args own Cn index y bytes maxL ret wsy rm 1 6 n) (hp : PreV s H Cn b Pc As) (hn : As.length = n) (hsize : ls.size = nL) (hW8 : (rest.map fun v => v.category).sum ≤ 8) (hdg : decode cc pc = .ok (.invokevirtual index, 3)) (hf : cells + 1 ≤ R.cells ∧ slots + 6 ≤ R.slots)
    (k : ∀ (q : Addr) (ce : Cell) (t : State) (L : List Loc), t.heap[q]? = some ce → ce.vm = .none → s.vm.findClass E = some ce.cls → s.vm.Alike t.vm → B t → (∀ z ∈ L, A1 z.base) → H.size ≤ t.heap.size → (∀ a : Nat, a < H.size → ¬ A1 a → t.heap[a]? = H[a]?) → jxW p l e R s m args below meth c t.heap (locs ++ L) (cells + 1) (slots + 6) Q (F0 m pc ls rest) q) :
    W p l e R s m args below meth c H locs cells slots Q (F0 m pc ls (As.reverse ++ .ref b :: rest)) := by
  intro T hT X
  obtain ⟨⟨hrc, hrs, hfr, hlo, hws, hcw, hcode, hini, hy, hlen, hl⟩, hin, hse⟩ := cw
  obtain ⟨hx, hb, hml, hown, -⟩ := S
  obtain ⟨hbl, ⟨cellB, hcB, hoB, hclB⟩, hPc⟩ := hp
  obtain ⟨mk, methM, hnamed, hmethM, hstM, habM⟩ := Cond.instanceMethod_spec hin
  obtain ⟨meth2, cM, hmeth2, hcM, -, hlM, -, -, -, hsigM⟩ := Cond.code_spec hnamed hcode
  have e0 : meth2 = methM := Option.some.inj (hmeth2.symm.trans hmethM)
  subst e0
  obtain ⟨c2, r2, m2, q1, q2, q3, q4, kP, hkP, hkPi⟩ := Cond.selects_spec hse
  have e1 : c2 = cellB.cls := Option.some.inj (q1.symm.trans hclB)
  subst e1
  cases (State.methodFound?_of_named hnamed hy).symm.trans q2
  cases hnamed.symm.trans q3
  have hsel : selectMethod e.platform s.vm cellB.cls mk = .method mk := by rw [Launch.admits_selectMethod X.admits]; exact q4
  obtain ⟨vm1, X1, hstep1⟩ := X.invokevirtual hx hown hl hnamed hmethM hstM hkP hkPi hy (a := b) (cell := cellB) (by rw [hT]; exact hcB) (fun z h => by rw [h] at hoB; cases hoB) hsel hmethM habM hkP hkPi (g := F0 m pc ls (As.reverse ++ .ref b :: rest)) rfl (argsL := As) (rest := rest) (hn.trans (hlen _ hsigM)) rfl (by rw [hb]; exact hdg)
  have hU : (T.setVm vm1).heap = H := hT
  have hWU : s.WarmedH (T.setVm vm1).vm := X1.warmed
  generalize T.setVm vm1 = U at X1 hstep1 hU hWU
  have h : At U m c below := X1.here
  have hnU : U.methodNamed? y = some mk := X1.named hnamed
  obtain ⟨kY, hkY, -⟩ := className_of_methodNamed hnU
  have hiU : (Cond.initialized y.cls).before (Value.ref b :: As).toArray U = true := word_at hWU (Or.inl (by first | rfl | simp [Cond.onTables, Cond.keeps, Cond.steady])) hini
  have hiY : kY.init = .initialized := Cond.initialized_spec (findClass_of_methodNamed hnU) hkY hiU
  have hcU : (Cond.code y bytes maxL ret).before (Value.ref b :: As).toArray U = true := hws _ hcw _ _ hWU
  obtain ⟨methY, cY, hmY, hcY, -, hlY, -, -, -, -⟩ := Cond.code_spec hnU hcU
  have happ : (headSpec wsy rm).appliesLoose y e.platform (U.calling (F0 m pc ls rest) mk (Value.ref b :: As).toArray) = true := by
    refine Spec.appliesLoose_calling (g := F0 m pc ls rest) h (by rw [hb]; exact hdg) hnU hkY hiY (X1.room_calling (g := F0 m pc ls rest) (R' := (headSpec wsy rm).room) (hsize.trans hml.symm) hmY hcY hfr ?_ ?_ ?_) (atoms_intro fun w hw => hws w hw _ _ hWU)
    · show 2 * 0 + (rest.map fun v => v.category).sum + (cY.maxLocals + 11) + rm.locals ≤ R.locals
      rw [hlY]
      omega
    · show cells + rm.cells ≤ R.cells
      rw [hrc]; exact hf.1
    · show slots + rm.slots ≤ R.slots
      rw [hrs]; exact hf.2
  obtain ⟨mid, hmid⟩ := h.above
  have hfrs : (U.setTop (F0 m pc ls rest)).frames = (.java (F0 m pc ls rest) :: mid) ++ below := by rw [State.frames_setTop' _ h.top, hmid]; rfl
  obtain ⟨o, s2, hsteps, -, hend, hq⟩ := Steps.callFree hM p X1.admits X1.cas X1.clock (acts := []) hfrs happ (hbl _ U _ _ (hPc U hU hWU)) trivial
  obtain ⟨q, ce, L, rfl, hce, hcv, hcl, hW2, hsm, hL, hB, hF⟩ := hq
  rw [State.frames_setTop' _ h.top] at hend
  have hf2 : s2.frames = .throwing q :: .java (F0 m pc ls rest) :: U.frames.tail := hend
  obtain ⟨g0, hg0⟩ := Option.isSome_iff_exists.mp h.top
  obtain ⟨r, hr⟩ := State.topJava?_eq_some.mp hg0
  have hW9 : U.WarmedH s2.vm := hW2
  obtain ⟨k1, k2, k3, k4, k5, k6⟩ := id hsm
  have hr2 : (({ U with heap := s2.heap, slotsUsed := s2.slotsUsed } : State).setVm s2.vm).frames = .java g0 :: r := hr
  have hs2 : s2 = ((({ U with heap := s2.heap, slotsUsed := s2.slotsUsed } : State).setVm s2.vm).setTop (F0 m pc ls rest)).pushFrame (.throwing q) := by
    have h1 : s2 = ({ s2 with vm := ((U.setTop (F0 m pc ls rest)).pushFrame (.invoking mk (Value.ref b :: As).toArray)).vm } : State).setVm s2.vm := rfl
    rw [k1] at h1
    refine h1.trans ?_
    show ({ (U.calling (F0 m pc ls rest) mk (Value.ref b :: As).toArray).setFrames s2.frames with heap := s2.heap, slotsUsed := s2.slotsUsed } : State).setVm s2.vm = _
    rw [hf2, State.calling_eq h.top, State.setFrames_setFrames, State.pushFrame, State.frames_setTop _ hr2, State.setTop_of_frames _ hr2, State.setFrames_setFrames, hr]
    rfl
  have hsame : U.sameButNew ({ U with heap := s2.heap, slotsUsed := s2.slotsUsed } : State) L 1 6 := by
    refine ⟨?_, k2, k3, k4, k5, k6⟩
    obtain ⟨t, ht, -⟩ := State.frames_cons hr
    show ({ U with heap := s2.heap, slotsUsed := s2.slotsUsed } : State) = { U.setFrames U.frames with heap := s2.heap, slotsUsed := s2.slotsUsed }
    rw [State.setFrames_self ht]
  have X2 : Stand p l e R s m args below meth c (({ U with heap := s2.heap, slotsUsed := s2.slotsUsed } : State).setVm s2.vm) (locs ++ L) (cells + 1) (slots + 6) :=
    ⟨X1.admits, X1.cas, X1.clock, X1.frames, X1.room, X1.hears, X1.method, X1.code, (X1.here.setHeapUsed s2.heap s2.slotsUsed).setVm hW9.alike, X1.tail, State.WarmedH.trans X1.warmed hW9, X1.limits, X1.bytes, X1.same.trans (hsame.setVm s.vm)⟩
  have hclS : s.vm.findClass E = some ce.cls := by
    have h1 : U.vm.findClass E = some ce.cls := hcl
    rw [hWU.alike.findClass] at h1
    exact h1
  obtain ⟨z1, z2⟩ := hF
  have z1 : U.heap.size ≤ s2.heap.size := z1
  have z2 : ∀ a : Nat, a < U.heap.size → ¬ A1 a → s2.heap[a]? = U.heap[a]? := z2
  rw [hU] at z1 z2
  obtain ⟨t2, a1, b1⟩ := k q ce s2 L hce hcv hclS (State.WarmedH.trans hWU hW9).alike hB hL z1 z2 (({ U with heap := s2.heap, slotsUsed := s2.slotsUsed } : State).setVm s2.vm) rfl X2
  rw [← hs2] at a1
  exact ⟨t2, hstep1 _ fun acts => by rw [doInvoke_state]; exact hsteps.trans a1, b1⟩
end JX
theorem jo0 {v1 vo : Int32} {σ1 σo : JS} (h : (some (0, v1, σ1) : Option (Nat × Int32 × JS)) = some (0, vo, σo)) : vo = v1 ∧ σo = σ1 := by
  have h1 := Option.some.inj h
  exact ⟨(congrArg (fun z => z.2.1) h1).symm, (congrArg (fun z => z.2.2) h1).symm⟩
theorem jo1 {ko : Nat} {a b : Int32 × JS} (h : (some (0, a) : Option (Nat × Int32 × JS)) = some (ko, b)) : ko = 0 := (congrArg Prod.fst (Option.some.inj h)).symm
theorem jo2 {k : Nat} {a b : Int32 × JS} (h : (some (k + 1, a) : Option (Nat × Int32 × JS)) = some (0, b)) : False := Nat.succ_ne_zero k (congrArg Prod.fst (Option.some.inj h))
theorem jo3 {k : Nat} {a b : Int32 × JS} (h : (some (k, a) : Option (Nat × Int32 × JS)) = some (0, b)) : k = 0 := congrArg Prod.fst (Option.some.inj h)
theorem jo4 {k ko : Nat} {v vo : Int32} {σ1 σo : JS} (h : (some (k, v, σ1) : Option (Nat × Int32 × JS)) = some (ko, vo, σo)) : ko = k ∧ vo = v ∧ σo = σ1 := by
  have h1 := Option.some.inj h
  exact ⟨(congrArg (fun z => z.1) h1).symm, (congrArg (fun z => z.2.1) h1).symm, (congrArg (fun z => z.2.2) h1).symm⟩
theorem jq0 {x : Option (Nat × Int32 × JS)} {q : Nat × Int32 × JS} (h : x = some q) (hz : q.1 = 0) : x = some (0, q.2.1, q.2.2) := by
  rw [h, ← hz]
theorem jq1 {x : Option (Nat × Int32 × JS)} {q : Nat × Int32 × JS} (h : x = some q) : x = some (q.1, q.2.1, q.2.2) := h
theorem jB_kept {D : va_G} {tys : List (ClassId × FieldType)} {C : JS → va_W} {σ : JS} {A : Nat → Prop} {s : State} {locs : List Loc} (hw : jH D tys (C σ) A s.heap s.heap locs s) (t : State) (ha : s.vm.Alike t.vm) (_ : s.heap.size ≤ t.heap.size) (hk : ∀ q : Nat, q < s.heap.size → t.heap[q]? = s.heap[q]?) : jB D tys C A σ t :=
  ⟨hw.1.kept (fun k q hq => hk q.1 (hw.1 k q hq).lt), va_K.moved ha hw.2.2.2, hw.2.1⟩
def jnm : List String := ["java/lang/RuntimeException", "java/lang/Exception"]
set_option maxRecDepth 100000 in
theorem jxw1 : ∀ w ∈ Bundle.ownAtoms0 RH 63 (jE 1) jnm, w ∈ lw_tbl ∨ w ∈ ([.isRef (.static "java/lang/Throwable" "UNASSIGNED_STACK" "[Ljava/lang/StackTraceElement;"), .isRef (.static "java/lang/Throwable" "SUPPRESSED_SENTINEL" "Ljava/util/List;")] : List Cond) := by decide +kernel
set_option maxRecDepth 100000 in
theorem jxw2 : ∀ w ∈ Bundle.ownAtoms0 RH 70 (jE 2) jnm, w ∈ lw_tbl ∨ w ∈ ([.isRef (.static "java/lang/Throwable" "UNASSIGNED_STACK" "[Ljava/lang/StackTraceElement;"), .isRef (.static "java/lang/Throwable" "SUPPRESSED_SENTINEL" "Ljava/util/List;")] : List Cond) := by decide +kernel
theorem jxw_of {p : Program} {m : MethodId} {c : Code} {cc : ByteArray} {nL : Nat} {s : State} {args : Array Value} {own : String} {A : Nat → Prop} {L : List Cond} (S : CallFix p m c cc nL s args jall own) (hN : xN A s) (h : ∀ w ∈ L, w ∈ lw_tbl ∨ w ∈ ([.isRef (.static "java/lang/Throwable" "UNASSIGNED_STACK" "[Ljava/lang/StackTraceElement;"), .isRef (.static "java/lang/Throwable" "SUPPRESSED_SENTINEL" "Ljava/util/List;")] : List Cond)) : ∀ w ∈ L, w.before args s = true := by
  intro w hw
  rcases h w hw with h1 | h1
  · by_cases hg : goodWord w = true
    · exact S.2.2.2.2 w (List.mem_filter.mpr ⟨h1, hg⟩)
    · exact xN_w hN (List.mem_append_left _ (List.mem_filter.mpr ⟨h1, by simpa using hg⟩)) args
  · exact xN_w hN (List.mem_append_right _ h1) args
section JX2
variable {p : Program} {l : Launch} {e : Env} {R : Room} {s : State} {m : MethodId} {args : Array Value} {below : List Frame} {meth : Method} {c : Code} {H : Heap} {locs : List Loc}
variable {cc : ByteArray} {nL pc : Nat} {ls : Array Slot} {rest : List Value} {own : String} {D : va_G} {tys : List (ClassId × FieldType)} {A : Nat → Prop} {C : JS → va_W} {σ σ' : JS}
theorem jx_passV {y : MethodName} {bytes : ByteArray} {maxL n index : Nat} {ret : Option FieldType} {wsy : List Cond} {rm : Room} {Pc : Array Value → State → Prop} {E : String} {Cn : String} {b : Addr} {As : List Value} (S : CallFix p m c cc nL s args jall own) (hw : jH D tys (C σ) A s.heap H locs s) (hA : ∀ q, s.heap.size ≤ q → A q) (hnil : ∀ x ∈ c.exceptionTable.toList, False) (hlk : meth.locks = false) (hM : jxM l y wsy rm Pc E (jB D tys C (va_A (C σ) H.size) σ') (va_A (C σ) H.size) 1 6) (cw : CallW R s args own Cn index y bytes maxL ret wsy rm 1 6 n) (hp : PreV s H Cn b Pc As) (hn : As.length = n) (hsize : ls.size = nL) (hW8 : (rest.map fun v => v.category).sum ≤ 8) (hdg : decode cc pc = .ok (.invokevirtual index, 3)) (hRc : 1 ≤ R.cells) (hRs : 6 ≤ R.slots) :
    W p l e R s m args below meth c H locs 0 0 (jxQ below s E (jB D tys C A σ') A 1 6) (F0 m pc ls (As.reverse ++ .ref b :: rest)) := by
  refine jx_callV S hM cw hp hn hsize hW8 hdg ⟨by omega, by omega⟩ (fun q ce t L hce hcv hcl hal hB hL hz hk => ?_)
  have hL2 : ∀ z ∈ locs ++ L, A z.base := fun z hz9 => by
    rcases List.mem_append.mp hz9 with h | h
    · exact hw.2.2.1.2.2 z h
    · exact j_free hw hA _ (hL z h)
  have hS : va_S A s.heap t.heap (locs ++ L) := ⟨Nat.le_trans hw.2.2.1.1 hz, fun q h1 h2 => by rw [hk q (Nat.lt_of_lt_of_le h1 hw.2.2.1.1) (fun z => h2 (j_free hw hA q z))]; exact hw.2.2.1.2.1 q h1 h2, hL2⟩
  exact jx_out hnil hlk hce hcv hcl hL2 (fun t9 ht9 ha9 => ⟨by rw [ht9]; exact hB.1, va_K.moved ha9 hw.2.2.2, hB.2.2.weaken (fun _ _ _ h => j_free hw hA _ h)⟩) hS (by omega) (by omega)
end JX2
