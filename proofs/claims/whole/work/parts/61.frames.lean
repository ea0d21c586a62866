/-! frames: worlds side by side -/
theorem jD_iff {A : Nat → Prop} {ws : va_W} : va_D A ws ↔ ((ws.map Prod.fst).Nodup ∧ ∀ q ∈ ws, A q.1) := by
  constructor
  · rintro ⟨h1, h2⟩
    refine ⟨?_, fun q hq => ?_⟩
    · rw [List.nodup_iff_pairwise_ne, List.pairwise_iff_getElem]
      intro i j hi hj hij he
      rw [List.length_map] at hi hj
      rw [List.getElem_map, List.getElem_map] at he
      have := h1 i j _ _ (List.getElem?_eq_getElem hi) (List.getElem?_eq_getElem hj) he
      omega
    · obtain ⟨k, hk⟩ := List.mem_iff_getElem?.mp hq
      exact h2 k q hk
  · rintro ⟨h1, h2⟩
    refine ⟨fun i j p q hi hj he => ?_, fun k q hk => h2 q (List.mem_of_getElem? hk)⟩
    rw [List.nodup_iff_pairwise_ne, List.pairwise_iff_getElem] at h1
    obtain ⟨hi1, hi2⟩ := List.getElem?_eq_some_iff.mp hi
    obtain ⟨hj1, hj2⟩ := List.getElem?_eq_some_iff.mp hj
    rcases Nat.lt_trichotomy i j with h | h | h
    · have := h1 i j (by simpa using hi1) (by simpa using hj1) h
      rw [List.getElem_map, List.getElem_map, hi2, hj2] at this
      exact absurd he this
    · exact h
    · have := h1 j i (by simpa using hj1) (by simpa using hi1) h
      rw [List.getElem_map, List.getElem_map, hi2, hj2] at this
      exact absurd he.symm this
section JF
variable {D : va_G} {tys tys' tx : List (ClassId × FieldType)} {ws ws' w1 ex : va_W} {A : Nat → Prop} {H0 H H1 : Heap} {locs locs1 : List Loc} {s : State}
theorem jH_perm (h : jH D tys ws A H0 H locs s) (hp : ws.Perm ws') (ht : ∀ q ∈ tys', q ∈ tys) : jH D tys' ws' A H0 H locs s := by
  obtain ⟨hP, hD, hS, hK⟩ := h
  refine ⟨fun k q hk => ?_, ?_, hS, hK.1, fun k q hk => ?_⟩
  · obtain ⟨j, hj⟩ := List.mem_iff_getElem?.mp (hp.mem_iff.mpr (List.mem_of_getElem? hk))
    exact hP j q hj
  · rw [jD_iff] at hD ⊢
    exact ⟨(hp.map Prod.fst).nodup_iff.mp hD.1, fun q hq => hD.2 q (hp.mem_iff.mpr hq)⟩
  · obtain ⟨j, hj⟩ := List.mem_iff_getElem?.mp (ht q (List.mem_of_getElem? hk))
    exact hK.2 j q hj
theorem jH_left (h : jH D tys (ws ++ ex) A H0 H locs s) (ht : ∀ q ∈ tys', q ∈ tys) : jH D tys' ws A H0 H locs s := by
  obtain ⟨hP, hD, hS, hK⟩ := h
  refine ⟨fun k q hk => ?_, ?_, hS, hK.1, fun k q hk => ?_⟩
  · obtain ⟨j, hj⟩ := List.mem_iff_getElem?.mp (List.mem_append_left ex (List.mem_of_getElem? hk))
    exact hP j q hj
  · rw [jD_iff] at hD ⊢
    rw [List.map_append] at hD
    exact ⟨(List.nodup_append.mp hD.1).1, fun q hq => hD.2 q (List.mem_append_left _ hq)⟩
  · obtain ⟨j, hj⟩ := List.mem_iff_getElem?.mp (ht q (List.mem_of_getElem? hk))
    exact hK.2 j q hj
theorem jH_frame (hw : jH D tys (ws ++ ex) A H0 H locs s) (hA : ∀ q, H0.size ≤ q → A q) (hk : ∀ q : Nat, q < H.size → ¬ va_A ws H.size q → H1[q]? = H[q]?) (hP1 : va_P D vwCl w1 H1) (hD1 : va_D (va_A ws H.size) w1) (hS : va_S A H0 H1 locs1) : jH D tys (w1 ++ ex) A H0 H1 locs1 s := by
  have hwl := jH_left (tys' := []) hw (fun _ h => by cases h)
  have hfree := j_free hwl hA
  have hout : ∀ q ∈ ex, va_at D vwCl q H ∧ q.1 < H.size ∧ ¬ va_A ws H.size q.1 := by
    intro q hq
    obtain ⟨j, hj⟩ := List.mem_iff_getElem?.mp hq
    have hj2 : (ws ++ ex)[ws.length + j]? = some q := by rw [List.getElem?_append_right (Nat.le_add_right _ _), Nat.add_sub_cancel_left]; exact hj
    have hat := hw.1 _ q hj2
    refine ⟨hat, hat.lt, fun hz => ?_⟩
    rcases hz with ⟨k, e, hz⟩ | hz
    · have hkl : k < ws.length := (List.getElem?_eq_some_iff.mp hz).1
      have hk2 : (ws ++ ex)[k]? = some (q.1, e) := by rw [List.getElem?_append_left hkl]; exact hz
      have := hw.2.1.1 k (ws.length + j) (q.1, e) q hk2 hj2 rfl
      omega
    · exact absurd hat.lt (Nat.not_lt.mpr hz)
  refine ⟨va_P.app hP1 (fun k q hq => ?_), ?_, hS, hw.2.2.2⟩
  · obtain ⟨h1, h2, h3⟩ := hout q (List.mem_of_getElem? hq)
    exact h1.kept (hk q.1 h2 h3)
  · have hDe : va_D A ex := by
      have h0 := hw.2.1
      rw [jD_iff] at h0 ⊢
      rw [List.map_append] at h0
      exact ⟨(List.nodup_append.mp h0.1).2.1, fun q hq => h0.2 q (List.mem_append_right _ hq)⟩
    refine va_D.app (hD1.weaken (fun _ _ _ h => hfree _ h)) hDe (fun i j x y hx hy hxy => ?_)
    exact (hout y (List.mem_of_getElem? hy)).2.2 (by rw [← hxy]; exact hD1.2 i x hx)
end JF
section JG
variable {p : Program} {l : Launch} {e : Env} {R : Room} {s : State} {m : MethodId} {args : Array Value} {below : List Frame} {meth : Method} {c : Code} {H : Heap} {locs : List Loc} {cells slots mc ms : Nat} {Q : State → Prop}
variable {cc : ByteArray} {nL pc : Nat} {ls : Array Slot} {rest : List Value} {Ts : List Cond} {own : String} {D : va_G} {tys tx : List (ClassId × FieldType)} {ex : va_W} {A : Nat → Prop} {H0 : Heap} {C : JS → va_W} {σ σ' : JS}
theorem j_calliF {av : Array Value} {st0 : List Value} {v : Int32} (hw : jH D tys (C σ ++ ex) A H0 H locs s) (hA : ∀ q, H0.size ≤ q → A q) (hr : va_Run p l e R s m args below meth c H locs cells slots mc ms (F0 m pc ls st0) rest (jQi D tx C (va_A (C σ) H.size) v σ' av) (va_A (C σ) H.size))
    (kk : ∀ (H1 : Heap) (locs1 : List Loc), jH D tys (C σ' ++ ex) A H0 H1 locs1 s → W p l e R s m args below meth c H1 locs1 (cells + mc) (slots + ms) Q (F0 m (pc + 3) ls (.int v :: rest))) : W p l e R s m args below meth c H locs cells slots Q (F0 m pc ls st0) := by
  have hf := j_free (jH_left (tys' := []) hw (fun _ h => by cases h)) hA
  refine va_calli hr hw.2.2.1 (fun q _ h => hf q h) hf (fun r u t H1 locs1 ht hvm hp hB hz hk hS => ?_)
  obtain ⟨rfl, rfl⟩ := hp
  obtain ⟨hP1, hK1, hD1⟩ := hB
  rw [ht] at hP1
  exact kk H1 locs1 (jH_frame hw hA hk hP1 hD1 hS)
theorem j_calllF {av : Array Value} {st0 : List Value} {v : Int64} (hw : jH D tys (C σ ++ ex) A H0 H locs s) (hA : ∀ q, H0.size ≤ q → A q) (hr : va_Run p l e R s m args below meth c H locs cells slots mc ms (F0 m pc ls st0) rest (jQl D tx C (va_A (C σ) H.size) v σ' av) (va_A (C σ) H.size))
    (kk : ∀ (H1 : Heap) (locs1 : List Loc), jH D tys (C σ' ++ ex) A H0 H1 locs1 s → W p l e R s m args below meth c H1 locs1 (cells + mc) (slots + ms) Q (F0 m (pc + 3) ls (.long v :: rest))) : W p l e R s m args below meth c H locs cells slots Q (F0 m pc ls st0) := by
  have hf := j_free (jH_left (tys' := []) hw (fun _ h => by cases h)) hA
  refine va_calll hr hw.2.2.1 (fun q _ h => hf q h) hf (fun r u t H1 locs1 ht hvm hp hB hz hk hS => ?_)
  obtain ⟨rfl, rfl⟩ := hp
  obtain ⟨hP1, hK1, hD1⟩ := hB
  rw [ht] at hP1
  exact kk H1 locs1 (jH_frame hw hA hk hP1 hD1 hS)
/-- a static call of a method with handlers -/
theorem j_runSW {y : MethodName} {bytes : ByteArray} {maxL n index : Nat} {ret : Option FieldType} {hh : List (Nat × Nat × Nat × Nat)} {wsy : List Cond} {rm : Room} {Pc : Array Value → State → Prop} {Qc : Array Value → State → Outcome → State → Prop} {free : Addr → Prop} {As : List Value} (S : CallFix p m c cc nL s args Ts own) (hM : Met l y wsy rm Pc Qc mc ms free) (hrc : rm.cells = mc) (hrs : rm.slots = ms) (hfr : rm.frames + 1 ≤ R.frames) (hlo : 8 + (maxL + 11) + rm.locals ≤ R.locals) (hws : GoodIn Ts wsy) (hcw : Cond.codeWith y bytes maxL ret hh ∈ wsy) (hini : (Cond.initialized y.cls).before args s = true) (hst : (Cond.static y).before args s = true) (hlink : (Cond.methodLink own index y).before args s = true) (hy : y.cls ≠ "java/lang/invoke/MethodHandle" ∧ y.cls ≠ "java/lang/invoke/VarHandle" ∧ (parseMethodDescriptor y.desc).map (fun d => d.parameters.length) = some n) (hp : PreS s H Pc As) (hn : As.length = n) (hsize : ls.size = nL) (hW8 : (rest.map fun v => v.category).sum ≤ 8) (hdg : decode cc pc = .ok (.invokestatic index, 3)) (hf : cells + mc ≤ R.cells ∧ slots + ms ≤ R.slots) :
    va_Run p l e R s m args below meth c H locs cells slots mc ms (F0 m pc ls (As.reverse ++ rest)) rest (Qc As.toArray) free := by
  obtain ⟨hx, hb, hml, hown, hts⟩ := S
  have hpay := pay_in hts hws
  have hcode : (Cond.codeWith y bytes maxL ret hh).before args s = true := hts _ (hws _ hcw).1
  intro T hT X
  obtain ⟨mk, methM, cM, hnamed, hmM, -, -, -, -, -, -, hsig⟩ := Cond.codeWith_spec hcode
  have hstM : methM.isStatic = true := Cond.static_spec hnamed hmM hst
  obtain ⟨kP, hkP, -⟩ := className_of_methodNamed hnamed
  have hiP : kP.init = .initialized := Cond.initialized_spec (findClass_of_methodNamed hnamed) hkP hini
  have hlen : As.length = methM.sig.parameters.length := by
    have h2 := hy.2.2
    rw [hsig] at h2
    exact hn.trans (Option.some.inj h2).symm
  obtain ⟨vm1, X1, hstep1⟩ := X.invokestatic hx hown hlink hnamed hmM hstM hkP hiP ⟨hy.1, hy.2.1⟩ (g := F0 m pc ls (As.reverse ++ rest)) rfl (argsL := As) (rest := rest) hlen rfl (by rw [hb]; exact hdg)
  have hK : Back l R p e below s args y 3 8 (PreOf R mc ms Pc) (PostOf Qc mc ms free) := va_backW (hh := hh) (bytes := bytes) (maxL := maxL) (ret := ret) hM hp.1 hrc hrs hfr hlo hpay hcw (fun a1 U hW => word_at hW (Or.inl (by first | rfl | simp [Cond.onTables, Cond.keeps, Cond.steady])) hini)
  obtain ⟨v, ⟨U1, l2, c2, s2⟩, X2, ⟨g1, mk1, t, L, e1, e2, hq, h1, hL, h2, h3⟩, st⟩ := hK m meth c ⟨T.setVm vm1, locs, cells, slots⟩ (F0 m pc ls rest) (.invokestatic index) mk As.toArray X1 rfl (hsize.trans hml.symm) (by rw [hb]; exact hdg) (by show 2 * 0 + (rest.map fun v => v.category).sum ≤ 8; omega) (X1.named hnamed) ⟨hf.1, hf.2, hp.2 (T.setVm vm1) hT X1.warmed⟩
  dsimp only [Pt.U, Pt.locs, Pt.cells, Pt.slots] at X2 e1 e2 h1 h2 h3 st
  subst h1; subst h2; subst h3
  exact ⟨v, (T.setVm vm1).calling g1 mk1 As.toArray, t, U1, L, hT, X2, hL, e1, e2, hq, fun target h => hstep1 _ fun acts => by rw [doInvoke_state]; exact st.trans h⟩
end JG
