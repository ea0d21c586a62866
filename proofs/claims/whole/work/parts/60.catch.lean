/-! catches: the handlers' classes may still have to be looked up -/
theorem jc_row {Q : Handler → Pre} {E : CtlPost} {e : Env} {d : Bool} {acts : List Action} {s : State} {f : JFrame} {a : Addr} {x : ExceptionTableEntry} {t : List ExceptionTableEntry} {c : ClassId} {cell : Cell} {b : Bool} (hx : covers x f.pc = true) (h0 : x.catchType ≠ 0) (hl : s.vm.ClassLinks e.platform f.method.cls x.catchType c) (hcell : s.heap[a]? = some cell) (hobj : ∀ k, cell.vm ≠ .statics k) (hk : ∃ k, s.vm.classes[cell.cls]? = some k) (hc : ∃ k, s.vm.classes[c]? = some k) (hfit : s.vm.assignable cell.cls c = b) :
    wp (findHandler.go f a (x :: t)) Q E e d acts s ↔ if b = true then Q (.found x.handlerPc) d acts (s.setVm (s.vm.noted f.method.cls x.catchType (.cls c))) else wp (findHandler.go f a t) Q E e d acts (s.setVm (s.vm.noted f.method.cls x.catchType (.cls c))) := by
  simp only [covers] at hx
  obtain ⟨g1, g2⟩ := (resolveClass_links e.toSetting hl).op (op := VmOp.resolveClass f.method.cls x.catchType) rfl
  have hal : s.vm.Alike (s.vm.noted f.method.cls x.catchType (.cls c)) := (Vm.Alike.refl s.vm).noted _ _ _
  obtain ⟨k1, hk1⟩ := hk
  obtain ⟨k2, hk2⟩ := hc
  obtain ⟨k3, hk3, -⟩ := hal.2.2 _ _ hk1
  obtain ⟨k4, hk4, -⟩ := hal.2.2 _ _ hk2
  have hfit2 : (s.vm.noted f.method.cls x.catchType (.cls c)).assignable cell.cls c = b := by rw [hal.assignable]; exact hfit
  cases b <;> simp [findHandler.go, hx, h0, g1, g2, hcell, hobj, hk3, hk4, hfit2, VmOp.dirties, VmOp.acts]
theorem jc_step {tb : Tables} {e : Env} {s target : State} {g : JFrame} {c : Code} {below : List Frame} {a : Addr} (h : At s g.method c below) {pc : Nat} {vm1 : Vm} (hf : ∀ (Q : Handler → Pre) (E : CtlPost) (d : Bool) (acts : List Action), wp (findHandler g a) Q E e d acts ((s.setTop g).pushFrame (.throwing a)) ↔ Q (.found pc) d acts (((s.setTop g).pushFrame (.throwing a)).setVm vm1)) (hrest : Steps tb e below ((s.setVm vm1).setTop { g with pc := pc, stack := [.ref a] }) target) : Steps tb e below ((s.setTop g).pushFrame (.throwing a)) target := by
  obtain ⟨hgo, hin⟩ := h.throwing a
  obtain ⟨g0, hg0⟩ := Option.isSome_iff_exists.mp h.top
  obtain ⟨r, hr⟩ := State.topJava?_eq_some.mp hg0
  have key : ∀ rr : List Frame, (stepThrowing e ((s.setTop g).pushFrame (.throwing a)) a (.java g :: rr)).Is ((((s.setTop g).pushFrame (.throwing a)).setVm vm1).setFrames (.java { g with pc := pc, stack := [.ref a] } :: rr)) [] := by
    intro rr
    simp only [stepThrowing, searchFrame, vmDo]
    generalize hres : Sem.go _ e false [] ((s.setTop g).pushFrame (.throwing a)) = res
    obtain ⟨as, rfl, ha⟩ := Sem.eq_ok_of hres (a := Handler.found pc) (s' := ((s.setTop g).pushFrame (.throwing a)).setVm vm1) (acts' := []) (by simp [hf _ _ _ _])
    exact ⟨rfl, ha⟩
  refine Steps.head hgo hin ?_
  rw [stepThread_throwing (frames_entered h.top _), (key _).1]
  have hr1 : (s.setVm vm1).frames = .java g0 :: r := hr
  rw [State.setTop_of_frames _ hr1] at hrest
  have e1 : ∀ (u : State) (F G : List Frame), ((u.setFrames F).setVm vm1).setFrames G = (u.setVm vm1).setFrames G := fun u F G => by
    have h1 : (u.setFrames F).setVm vm1 = (u.setVm vm1).setFrames F := rfl
    rw [h1, State.setFrames_setFrames]
  rw [hr, List.tail_cons, State.pushFrame, e1, State.setTop_of_frames _ hr, e1]
  exact hrest
section JC
variable {p : Program} {l : Launch} {e : Env} {R : Room} {s : State} {m : MethodId} {args : Array Value} {below : List Frame} {meth : Method} {c : Code} {H : Heap} {locs : List Loc} {cells slots : Nat} {Q : State → Prop} {pc : Nat} {ls : Array Slot} {rest : List Value} {own : String}
/-- the first handler takes it -/
theorem jx_catchA {q : Addr} {ce : Cell} {E nx : String} (hown : s.vm.findClass own = some m.cls) {x : ExceptionTableEntry} {xs : List ExceptionTableEntry} (htab : c.exceptionTable.toList = x :: xs) (hx : covers x pc = true) (h0 : x.catchType ≠ 0) (hlink : (Cond.classLink own x.catchType nx).before args s = true) (hcast : (Cond.castable E nx).before args s = true) (hce : H[q]? = some ce) (hv : ce.vm = .none) (hcl : s.vm.findClass E = some ce.cls)
    (k : W p l e R s m args below meth c H locs cells slots Q (F0 m x.handlerPc ls [.ref q])) : jxW p l e R s m args below meth c H locs cells slots Q (F0 m pc ls rest) q := by
  intro T hT X
  have hpl : e.platform.magicAccessors = ({} : Platform).magicAccessors := by rw [X.admits.platform]
  obtain ⟨c3, c4, hc3, hc4, hasg⟩ := Cond.castable_spec hcast
  have e3 : c3 = ce.cls := Option.some.inj (hc3.symm.trans hcl)
  subst e3
  obtain ⟨c5, hc5, hl5⟩ := Cond.classLink_spec hown hlink e.platform hpl
  have e5 : c5 = c4 := Option.some.inj (hc5.symm.trans hc4)
  subst e5
  obtain ⟨kE, hkE, -⟩ := Vm.findClass_spec hcl
  obtain ⟨kE2, hkE2, -⟩ := X.warmed.alike.2.2 _ _ hkE
  obtain ⟨dk, _, _, kt, hd, _, _, _, _, hkt, _, hopen⟩ := hl5.here
  obtain ⟨kt2, hkt2, -⟩ := X.warmed.alike.2.2 _ _ hkt
  have hW2 := X.warmed.noted hd hopen (State.rightAt_cls hl5)
  obtain ⟨t, a1, b1⟩ := k (T.setVm (T.vm.noted m.cls x.catchType (.cls c5))) hT (X.noted hW2)
  refine ⟨t, jc_step (g := F0 m pc ls rest) X.here (fun Q1 E1 d1 acts1 => ?_) a1, b1⟩
  rw [W.findHandler_eq (meth := meth) (code := c) X.method' X.code, htab]
  have hh := jc_row (Q := Q1) (E := E1) (e := e) (d := d1) (acts := acts1) (s := (T.setTop (F0 m pc ls rest)).pushFrame (.throwing q)) (f := F0 m pc ls rest) (a := q) (x := x) (t := xs) (c := c5) (cell := ce) (b := true) hx h0 (X.warmed.classLinks hl5) (by show T.heap[q]? = _; rw [hT]; exact hce) (fun z h => by rw [hv] at h; cases h) ⟨kE2, hkE2⟩ ⟨kt2, hkt2⟩ (by show T.vm.assignable _ _ = _; rw [X.warmed.alike.assignable]; exact hasg)
  rw [hh, if_pos rfl]
  rfl
/-- the first handler names another class; the second takes it -/
theorem jx_catchB {q : Addr} {ce : Cell} {E ny nx : String} (hown : s.vm.findClass own = some m.cls) {y x : ExceptionTableEntry} {xs : List ExceptionTableEntry} (htab : c.exceptionTable.toList = y :: x :: xs) (hy : covers y pc = true) (hy0 : y.catchType ≠ 0) (hylink : (Cond.classLink own y.catchType ny).before args s = true) (hno : va_Nc E ny s) (hx : covers x pc = true) (h0 : x.catchType ≠ 0) (hlink : (Cond.classLink own x.catchType nx).before args s = true) (hcast : (Cond.castable E nx).before args s = true) (hce : H[q]? = some ce) (hv : ce.vm = .none) (hcl : s.vm.findClass E = some ce.cls)
    (k : W p l e R s m args below meth c H locs cells slots Q (F0 m x.handlerPc ls [.ref q])) : jxW p l e R s m args below meth c H locs cells slots Q (F0 m pc ls rest) q := by
  intro T hT X
  have hpl : e.platform.magicAccessors = ({} : Platform).magicAccessors := by rw [X.admits.platform]
  obtain ⟨c3, c4, hc3, hc4, hasg⟩ := Cond.castable_spec hcast
  have e3 : c3 = ce.cls := Option.some.inj (hc3.symm.trans hcl)
  subst e3
  obtain ⟨c5, hc5, hl5⟩ := Cond.classLink_spec hown hlink e.platform hpl
  have e5 : c5 = c4 := Option.some.inj (hc5.symm.trans hc4)
  subst e5
  obtain ⟨c6, hc6, hl6⟩ := Cond.classLink_spec hown hylink e.platform hpl
  obtain ⟨a8, b8, n1, n2, n3⟩ := hno
  have e8 : a8 = ce.cls := Option.some.inj (n1.symm.trans hcl)
  subst e8
  have e9 : b8 = c6 := Option.some.inj (n2.symm.trans hc6)
  subst e9
  obtain ⟨kE, hkE, -⟩ := Vm.findClass_spec hcl
  obtain ⟨dk, _, _, kt, hd, _, _, _, _, hkt, _, hopen⟩ := hl5.here
  obtain ⟨dk6, _, _, kt6, hd6, _, _, _, _, hkt6, _, hopen6⟩ := hl6.here
  have hW1 := X.warmed.noted hd6 hopen6 (State.rightAt_cls hl6)
  have hW2 := hW1.noted hd hopen (State.rightAt_cls hl5)
  obtain ⟨kE2, hkE2, -⟩ := X.warmed.alike.2.2 _ _ hkE
  obtain ⟨kt7, hkt7, -⟩ := X.warmed.alike.2.2 _ _ hkt6
  obtain ⟨kE3, hkE3, -⟩ := hW1.alike.2.2 _ _ hkE
  obtain ⟨kt8, hkt8, -⟩ := hW1.alike.2.2 _ _ hkt
  obtain ⟨t, a1, b1⟩ := k (T.setVm ((T.vm.noted m.cls y.catchType (.cls b8)).noted m.cls x.catchType (.cls c5))) hT (X.noted hW2)
  refine ⟨t, jc_step (g := F0 m pc ls rest) X.here (fun Q1 E1 d1 acts1 => ?_) a1, b1⟩
  rw [W.findHandler_eq (meth := meth) (code := c) X.method' X.code, htab]
  have hh := jc_row (Q := Q1) (E := E1) (e := e) (d := d1) (acts := acts1) (s := (T.setTop (F0 m pc ls rest)).pushFrame (.throwing q)) (f := F0 m pc ls rest) (a := q) (x := y) (t := x :: xs) (c := b8) (cell := ce) (b := false) hy hy0 (X.warmed.classLinks hl6) (by show T.heap[q]? = _; rw [hT]; exact hce) (fun z h => by rw [hv] at h; cases h) ⟨kE2, hkE2⟩ ⟨kt7, hkt7⟩ (by show T.vm.assignable _ _ = _; rw [X.warmed.alike.assignable]; exact n3)
  rw [hh, if_neg (by decide)]
  have h2 := jc_row (Q := Q1) (E := E1) (e := e) (d := d1) (acts := acts1) (s := ((T.setTop (F0 m pc ls rest)).pushFrame (.throwing q)).setVm (T.vm.noted m.cls y.catchType (.cls b8))) (f := F0 m pc ls rest) (a := q) (x := x) (t := xs) (c := c5) (cell := ce) (b := true) hx h0 (hW1.classLinks hl5) (by show T.heap[q]? = _; rw [hT]; exact hce) (fun z h => by rw [hv] at h; cases h) ⟨kE3, hkE3⟩ ⟨kt8, hkt8⟩ (by show (T.vm.noted m.cls y.catchType (.cls b8)).assignable _ _ = _; rw [hW1.alike.assignable]; exact hasg)
  refine Iff.trans h2 ?_
  rw [if_pos rfl]
  rfl
end JC
