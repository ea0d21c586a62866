/-- the house's cells and the law's own row of one long -/
def lC (ca : Nat → ClassId) (ad : Nat → Nat) (o : Nat) (cJ : ClassId) (σ : JS) (g : Nat → Int64) : va_W := xC ca ad σ ++ [(o, .inl (cJ, 1, .inr (.inl g)))]
def lT (ca : Nat → ClassId) (cJ : ClassId) : List (ClassId × FieldType) := xT ca ++ [(cJ, .long)]
def zQ (D : va_G) (ca : Nat → ClassId) (ad : Nat → Nat) (o : Nat) (cJ : ClassId) (A : Nat → Prop) (r : Int32) (σ : JS) (g : Nat → Int64) : Array Value → State → Outcome → State → Prop := va_Qi (fun (r1 : Int32) (u : JS × (Nat → Int64)) => r1 = r ∧ u = (σ, g)) (fun u t => va_P D vwCl (lC ca ad o cJ u.1 u.2) t.heap ∧ va_K D vwCl (lT ca cJ) t ∧ va_D A (lC ca ad o cJ u.1 u.2)) A
def zR (k : Nat) : Int32 := if k = 0 then 0 else if k = 1 then 1 else 2
def zR1 (k : Nat) : Int32 := if k = 0 then 0 else 1
def zG (k : Nat) (v : Int32) (g : Nat → Int64) : Nat → Int64 := if k = 0 then vp_updL g 0 v.toInt64 else g
theorem lT_x (ca : Nat → ClassId) (cJ : ClassId) : ∀ q ∈ xT ca, q ∈ lT ca cJ := fun _ h => List.mem_append_left _ h
theorem jE_2 {k : Nat} (h : ¬ k = 1) : jE k = jE 2 := by unfold jE; rw [if_neg h, if_neg (by decide)]
theorem vp00 : vp_in 0 1 := by unfold vp_in; decide
section ZH
variable {p : Program} {l : Launch} {e : Env} {R : Room} {s : State} {m : MethodId} {args : Array Value} {below : List Frame} {meth : Method} {c : Code} {H : Heap} {locs : List Loc} {cells slots : Nat} {cc : ByteArray} {nL pc : Nat} {ls : Array Slot} {Ts : List Cond} {own : String} {D : va_G} {ca : Nat → ClassId} {ad : Nat → Nat} {o : Nat} {cJ : ClassId} {σ : JS} {g : Nat → Int64} {A : Nat → Prop}
theorem z_ret (S : CallFix p m c cc nL s args Ts own) (hw : jH D (lT ca cJ) (lC ca ad o cJ σ g) A s.heap H locs s) (hr : meth.sig.returnType = some .int) (hlk : meth.locks = false) {v : Int32} (h1 : cells ≤ 1) (h6 : slots ≤ 6) (hdg : decode cc pc = .ok (.ireturn, 1)) : W p l e R s m args below meth c H locs cells slots (MQ below (zQ D ca ad o cJ A v σ g) args s 1 6 A) (F0 m pc ls [.int v]) := by
  refine W.widen (k := 1) (n := 6) h1 h6 ?_
  exact W.iret (v := v) S.1 S.2.1 hr (fun t ht hW => ⟨⟨v, (σ, g), rfl, ⟨rfl, rfl⟩, by rw [ht]; exact hw.1, va_K.moved hW.alike hw.2.2.2, hw.2.1⟩, hw.2.2.1.F ht⟩) hw.2.2.1.2.2 hdg hlk
end ZH
def rmZ_file : Room := { frames := 7, cells := 1, slots := 6, locals := 110 }
def wsZ_file : List Cond := .codeWith yZ_file cZ_file 4 (some .int) [(0, 9, 12, 13), (0, 9, 15, 15)] :: jall
set_option maxHeartbeats 4000000 in
set_option maxRecDepth 100000 in
theorem kZ_file (l : Launch) (hl9 : l.stackTraces = false) (D : va_G) (ca : Nat → ClassId) (ad : Nat → Nat) (o : Nat) (cJ : ClassId) (sz : Nat) (σ : JS) (g : Nat → Int64) (x1 : Int32) (ko : Nat) (vo : Int32) (σo : JS) (hf : mH_file σ x1 = some (ko, vo, σo)) : Met l yZ_file wsZ_file rmZ_file (jPre D (lT ca cJ) (lC ca ad o cJ σ g) (fun U => xN (va_A (lC ca ad o cJ σ g) sz) U ∧ va_Nc (jE 2) (jE 1) U) sz [.ref (ad 0), .int x1, .ref o]) (zQ D ca ad o cJ (va_A (lC ca ad o cJ σ g) sz) (zR ko) σo (zG ko vo g)) 1 6 (va_A (lC ca ad o cJ σ g) sz) := by
  refine va_MetW (cc := cZ_file) (maxL := 4) (ret := some .int) (hh := [(0, 9, 12, 13), (0, 9, 15, 15)]) (by decide) rfl ?_
  intro p e s m args below meth c s₁ B hml hv
  obtain ⟨rfl, hsz, hP, hK, hD0, hNA, hNc⟩ := hv
  subst hsz
  have htab : c.exceptionTable.toList = [⟨0, 9, 12, 13⟩, ⟨0, 9, 15, 15⟩] := by
    obtain ⟨m9, meth9, c9, g1, g2, g3, -, -, g6, -⟩ := Cond.codeWith_spec (atoms_spec (ws := wsZ_file) B.pre _ List.mem_cons_self)
    cases Option.some.inj (g1.symm.trans B.named)
    cases Option.some.inj (g2.symm.trans B.method)
    cases Option.some.inj (g3.symm.trans (Stand.of_body B).code)
    have h7 := table_eq c.exceptionTable.toList
    rw [g6] at h7
    exact h7.symm
  have S : CallFix p m c cZ_file 4 s _ jall RZ := ⟨B.exec, B.bytes, hml, findClass_of_methodNamed B.named, fun w h => atoms_spec (ws := wsZ_file) B.pre w (List.mem_cons_of_mem _ h)⟩
  have hx := S.1
  have hb := S.2.1
  have hr := B.returns
  have hlk := B.notSynchronized
  have hw : jH D (lT ca cJ) (lC ca ad o cJ σ g) (va_A (lC ca ad o cJ σ g) s.heap.size) s.heap s.heap [] s := ⟨hP, hD0.self, va_S.rf, hK⟩
  have hA : ∀ q : Nat, s.heap.size ≤ q → va_A (lC ca ad o cJ σ g) s.heap.size q := fun q h => Or.inr h
  generalize va_A (lC ca ad o cJ σ g) s.heap.size = A at hw hA hNA ⊢
  have hwx : jH D (xT ca) (xC ca ad σ) A s.heap s.heap [] s := jH_left hw (lT_x ca cJ)
  have hl := lv_entry [.ref (ad 0), .int x1, .ref o] (n := 4) (Nat.le_of_ble_eq_true rfl)
  rw [lg_entry_eq]
  generalize (lg_sl [.ref (ad 0), .int x1, .ref o] ++ List.replicate (4 - (lg_sl [.ref (ad 0), .int x1, .ref o]).length) Slot.unset).toArray = ls at hl ⊢
  have hl : lv_has ls 4 [(0, .ref (ad 0)), (1, .int x1), (2, .ref o)] := hl
  refine lv_aload_n (pc := 0) hx hb dZ_file_0 rfl (lv_at hl 2 rfl) ?_
  refine lv_iconst (pc := 1) (v := (0 : Int32)) hx hb dZ_file_1 (by decide) ?_
  refine lv_aload_n (pc := 2) hx hb dZ_file_2 rfl (lv_at hl 0 rfl) ?_
  refine lv_iload_n (pc := 3) hx hb dZ_file_3 rfl (lv_at hl 1 rfl) ?_
  by_cases hz : ko = 0
  · subst hz
    refine j_calliF (pc := 4) (C := xC ca ad) (σ' := σo) (v := vo) hw hA (va_runV (As := [.int x1]) (rest := [.int 0, .ref o]) S (knH_file l D ca ad _ σ x1 vo σo hf) (cwV 1 S.2.2.2.2 (jgV k_274 k_275 k_276 k_1 k_277) rfl rfl rfl (by decide +kernel) ⟨Nat.le_of_ble_eq_true rfl, Nat.le_of_ble_eq_true rfl⟩) (j_preV (As := [.int x1]) hwx xN_b (xN_to (s := s) (A := A) hNA hwx hA) rfl xg_0) rfl rfl hl.1 rfl (lv_room (Nat.le_of_ble_eq_true rfl)) dZ_file_4 ⟨Nat.le_of_ble_eq_true rfl, Nat.le_of_ble_eq_true rfl⟩) (fun H locs hw => ?_)
    refine lv_i2l (pc := 7) (v := vo.toInt64) hx hb dZ_file_7 rfl ?_
    refine va_last (pc := 8) hx hb hw.2.2.2 hw.1 hw.2.1 hw.2.2.1 30 24 (cA := cJ) (n := 1) (f := g) rfl rfl (i := (0 : Int32)) (x := vo.toInt64) vp00 dZ_file_8 (fun H locs hP hD hS => ?_)
    have hw : jH D (lT ca cJ) (lC ca ad o cJ σo (vp_updL g 0 vo.toInt64)) A s.heap H locs s := ⟨hP, hD, hS, hw.2.2.2⟩
    refine lv_goto (pc := 9) (tgt := 18) hx hb dZ_file_9 (by decide) ?_
    refine lv_iconst (pc := 18) (v := (0 : Int32)) hx hb dZ_file_18 (by decide) ?_
    exact z_ret (pc := 19) S hw hr hlk (Nat.le_of_ble_eq_true rfl) (Nat.le_of_ble_eq_true rfl) dZ_file_19
  · refine jx_callV (pc := 4) (As := [.int x1]) (rest := [.int 0, .ref o]) S (kxH_file l hl9 D ca ad _ σ x1 ko vo σo hz hf) (cwV 1 S.2.2.2.2 (jgV k_274 k_275 k_276 k_1 k_277) rfl rfl rfl (by decide +kernel) ⟨Nat.le_of_ble_eq_true rfl, Nat.le_of_ble_eq_true rfl⟩) (j_preV (As := [.int x1]) hwx xN_b (xN_to (s := s) (A := A) hNA hwx hA) rfl xg_0) rfl hl.1 (Nat.le_of_ble_eq_true rfl) dZ_file_4 ⟨Nat.le_of_ble_eq_true rfl, Nat.le_of_ble_eq_true rfl⟩ (fun q ce t L hce hcv hcl hal hB hL hz1 hk9 => ?_)
    have hf2 := j_free hwx hA
    have hS2 : va_S A s.heap t.heap ([] ++ L) := ⟨hz1, fun q h1 h2 => hk9 q h1 (fun z => h2 (hf2 q z)), fun z hz9 => hf2 _ (hL z (by simpa using hz9))⟩
    have hw2 : jH D (lT ca cJ) (lC ca ad o cJ σo g) A s.heap t.heap ([] ++ L) s := jH_frame hw hA hk9 hB.1 hB.2.2 hS2
    by_cases h1 : ko = 1
    · subst h1
      refine jx_catchA (own := RZ) (E := jE 1) (nx := jE 1) S.2.2.2.1 htab (by decide) (by decide) (S.2.2.2.2 _ k_272) (xN_w hNA b_280 _) hce hcv hcl ?_
      refine lv_astore_n (pc := 12) (lv' := [(3, .ref q), (0, .ref (ad 0)), (1, .int x1), (2, .ref o)]) hx hb dZ_file_12 rfl hl (by decide) rfl (fun ls hl => ?_)
      refine lv_iconst (pc := 13) (v := (1 : Int32)) hx hb dZ_file_13 (by decide) ?_
      exact z_ret (pc := 14) S hw2 hr hlk (Nat.le_of_ble_eq_true rfl) (Nat.le_of_ble_eq_true rfl) dZ_file_14
    · rw [jE_2 h1] at hcl
      have e9 : zR ko = 2 := by unfold zR; rw [if_neg hz, if_neg h1]
      have e8 : zG ko vo g = g := if_neg hz
      rw [e9, e8]
      refine jx_catchB (own := RZ) (E := jE 2) (ny := jE 1) (nx := jE 2) S.2.2.2.1 htab (by decide) (by decide) (S.2.2.2.2 _ k_272) hNc (by decide) (by decide) (S.2.2.2.2 _ k_273) (xN_w hNA b_342 _) hce hcv hcl ?_
      refine lv_astore_n (pc := 15) (lv' := [(3, .ref q), (0, .ref (ad 0)), (1, .int x1), (2, .ref o)]) hx hb dZ_file_15 rfl hl (by decide) rfl (fun ls hl => ?_)
      refine lv_iconst (pc := 16) (v := (2 : Int32)) hx hb dZ_file_16 (by decide) ?_
      exact z_ret (pc := 17) S hw2 hr hlk (Nat.le_of_ble_eq_true rfl) (Nat.le_of_ble_eq_true rfl) dZ_file_17
def rmZ_change : Room := { frames := 7, cells := 1, slots := 6, locals := 115 }
def wsZ_change : List Cond := .codeWith yZ_change cZ_change 7 (some .int) [(0, 14, 17, 13), (0, 14, 21, 15)] :: jall
set_option maxHeartbeats 4000000 in
set_option maxRecDepth 100000 in
theorem kZ_change (l : Launch) (hl9 : l.stackTraces = false) (D : va_G) (ca : Nat → ClassId) (ad : Nat → Nat) (o : Nat) (cJ : ClassId) (sz : Nat) (σ : JS) (g : Nat → Int64) (x1 : Int32) (x2 : Int32) (x3 : Int32) (x4 : Int32) (ko : Nat) (vo : Int32) (σo : JS) (hf : mH_change σ x1 x2 x3 x4 = some (ko, vo, σo)) : Met l yZ_change wsZ_change rmZ_change (jPre D (lT ca cJ) (lC ca ad o cJ σ g) (fun U => xN (va_A (lC ca ad o cJ σ g) sz) U ∧ va_Nc (jE 2) (jE 1) U) sz [.ref (ad 0), .int x1, .int x2, .int x3, .int x4, .ref o]) (zQ D ca ad o cJ (va_A (lC ca ad o cJ σ g) sz) (zR ko) σo (zG ko vo g)) 1 6 (va_A (lC ca ad o cJ σ g) sz) := by
  refine va_MetW (cc := cZ_change) (maxL := 7) (ret := some .int) (hh := [(0, 14, 17, 13), (0, 14, 21, 15)]) (by decide) rfl ?_
  intro p e s m args below meth c s₁ B hml hv
  obtain ⟨rfl, hsz, hP, hK, hD0, hNA, hNc⟩ := hv
  subst hsz
  have htab : c.exceptionTable.toList = [⟨0, 14, 17, 13⟩, ⟨0, 14, 21, 15⟩] := by
    obtain ⟨m9, meth9, c9, g1, g2, g3, -, -, g6, -⟩ := Cond.codeWith_spec (atoms_spec (ws := wsZ_change) B.pre _ List.mem_cons_self)
    cases Option.some.inj (g1.symm.trans B.named)
    cases Option.some.inj (g2.symm.trans B.method)
    cases Option.some.inj (g3.symm.trans (Stand.of_body B).code)
    have h7 := table_eq c.exceptionTable.toList
    rw [g6] at h7
    exact h7.symm
  have S : CallFix p m c cZ_change 7 s _ jall RZ := ⟨B.exec, B.bytes, hml, findClass_of_methodNamed B.named, fun w h => atoms_spec (ws := wsZ_change) B.pre w (List.mem_cons_of_mem _ h)⟩
  have hx := S.1
  have hb := S.2.1
  have hr := B.returns
  have hlk := B.notSynchronized
  have hw : jH D (lT ca cJ) (lC ca ad o cJ σ g) (va_A (lC ca ad o cJ σ g) s.heap.size) s.heap s.heap [] s := ⟨hP, hD0.self, va_S.rf, hK⟩
  have hA : ∀ q : Nat, s.heap.size ≤ q → va_A (lC ca ad o cJ σ g) s.heap.size q := fun q h => Or.inr h
  generalize va_A (lC ca ad o cJ σ g) s.heap.size = A at hw hA hNA ⊢
  have hwx : jH D (xT ca) (xC ca ad σ) A s.heap s.heap [] s := jH_left hw (lT_x ca cJ)
  have hl := lv_entry [.ref (ad 0), .int x1, .int x2, .int x3, .int x4, .ref o] (n := 7) (Nat.le_of_ble_eq_true rfl)
  rw [lg_entry_eq]
  generalize (lg_sl [.ref (ad 0), .int x1, .int x2, .int x3, .int x4, .ref o] ++ List.replicate (7 - (lg_sl [.ref (ad 0), .int x1, .int x2, .int x3, .int x4, .ref o]).length) Slot.unset).toArray = ls at hl ⊢
  have hl : lv_has ls 7 [(0, .ref (ad 0)), (1, .int x1), (2, .int x2), (3, .int x3), (4, .int x4), (5, .ref o)] := hl
  refine lv_aload (pc := 0) hx hb dZ_change_0 (lv_at hl 5 rfl) ?_
  refine lv_iconst (pc := 2) (v := (0 : Int32)) hx hb dZ_change_2 (by decide) ?_
  refine lv_aload_n (pc := 3) hx hb dZ_change_3 rfl (lv_at hl 0 rfl) ?_
  refine lv_iload_n (pc := 4) hx hb dZ_change_4 rfl (lv_at hl 1 rfl) ?_
  refine lv_iload_n (pc := 5) hx hb dZ_change_5 rfl (lv_at hl 2 rfl) ?_
  refine lv_iload_n (pc := 6) hx hb dZ_change_6 rfl (lv_at hl 3 rfl) ?_
  refine lv_iload (pc := 7) hx hb dZ_change_7 (lv_at hl 4 rfl) ?_
  by_cases hz : ko = 0
  · subst hz
    refine j_calliF (pc := 9) (C := xC ca ad) (σ' := σo) (v := vo) hw hA (va_runV (As := [.int x1, .int x2, .int x3, .int x4]) (rest := [.int 0, .ref o]) S (knH_change l D ca ad _ σ x1 x2 x3 x4 vo σo hf) (cwV 4 S.2.2.2.2 (jgV k_358 k_359 k_360 k_1 k_361) rfl rfl rfl (by decide +kernel) ⟨Nat.le_of_ble_eq_true rfl, Nat.le_of_ble_eq_true rfl⟩) (j_preV (As := [.int x1, .int x2, .int x3, .int x4]) hwx xN_b (xN_to (s := s) (A := A) hNA hwx hA) rfl xg_0) rfl rfl hl.1 rfl (lv_room (Nat.le_of_ble_eq_true rfl)) dZ_change_9 ⟨Nat.le_of_ble_eq_true rfl, Nat.le_of_ble_eq_true rfl⟩) (fun H locs hw => ?_)
    refine lv_i2l (pc := 12) (v := vo.toInt64) hx hb dZ_change_12 rfl ?_
    refine va_last (pc := 13) hx hb hw.2.2.2 hw.1 hw.2.1 hw.2.2.1 30 24 (cA := cJ) (n := 1) (f := g) rfl rfl (i := (0 : Int32)) (x := vo.toInt64) vp00 dZ_change_13 (fun H locs hP hD hS => ?_)
    have hw : jH D (lT ca cJ) (lC ca ad o cJ σo (vp_updL g 0 vo.toInt64)) A s.heap H locs s := ⟨hP, hD, hS, hw.2.2.2⟩
    refine lv_goto (pc := 14) (tgt := 25) hx hb dZ_change_14 (by decide) ?_
    refine lv_iconst (pc := 25) (v := (0 : Int32)) hx hb dZ_change_25 (by decide) ?_
    exact z_ret (pc := 26) S hw hr hlk (Nat.le_of_ble_eq_true rfl) (Nat.le_of_ble_eq_true rfl) dZ_change_26
  · refine jx_callV (pc := 9) (As := [.int x1, .int x2, .int x3, .int x4]) (rest := [.int 0, .ref o]) S (kxH_change l hl9 D ca ad _ σ x1 x2 x3 x4 ko vo σo hz hf) (cwV 4 S.2.2.2.2 (jgV k_358 k_359 k_360 k_1 k_361) rfl rfl rfl (by decide +kernel) ⟨Nat.le_of_ble_eq_true rfl, Nat.le_of_ble_eq_true rfl⟩) (j_preV (As := [.int x1, .int x2, .int x3, .int x4]) hwx xN_b (xN_to (s := s) (A := A) hNA hwx hA) rfl xg_0) rfl hl.1 (Nat.le_of_ble_eq_true rfl) dZ_change_9 ⟨Nat.le_of_ble_eq_true rfl, Nat.le_of_ble_eq_true rfl⟩ (fun q ce t L hce hcv hcl hal hB hL hz1 hk9 => ?_)
    have hf2 := j_free hwx hA
    have hS2 : va_S A s.heap t.heap ([] ++ L) := ⟨hz1, fun q h1 h2 => hk9 q h1 (fun z => h2 (hf2 q z)), fun z hz9 => hf2 _ (hL z (by simpa using hz9))⟩
    have hw2 : jH D (lT ca cJ) (lC ca ad o cJ σo g) A s.heap t.heap ([] ++ L) s := jH_frame hw hA hk9 hB.1 hB.2.2 hS2
    by_cases h1 : ko = 1
    · subst h1
      refine jx_catchA (own := RZ) (E := jE 1) (nx := jE 1) S.2.2.2.1 htab (by decide) (by decide) (S.2.2.2.2 _ k_272) (xN_w hNA b_280 _) hce hcv hcl ?_
      refine lv_astore (pc := 17) (lv' := [(6, .ref q), (0, .ref (ad 0)), (1, .int x1), (2, .int x2), (3, .int x3), (4, .int x4), (5, .ref o)]) hx hb dZ_change_17 hl (by decide) rfl (fun ls hl => ?_)
      refine lv_iconst (pc := 19) (v := (1 : Int32)) hx hb dZ_change_19 (by decide) ?_
      exact z_ret (pc := 20) S hw2 hr hlk (Nat.le_of_ble_eq_true rfl) (Nat.le_of_ble_eq_true rfl) dZ_change_20
    · rw [jE_2 h1] at hcl
      have e9 : zR ko = 2 := by unfold zR; rw [if_neg hz, if_neg h1]
      have e8 : zG ko vo g = g := if_neg hz
      rw [e9, e8]
      refine jx_catchB (own := RZ) (E := jE 2) (ny := jE 1) (nx := jE 2) S.2.2.2.1 htab (by decide) (by decide) (S.2.2.2.2 _ k_272) hNc (by decide) (by decide) (S.2.2.2.2 _ k_273) (xN_w hNA b_342 _) hce hcv hcl ?_
      refine lv_astore (pc := 21) (lv' := [(6, .ref q), (0, .ref (ad 0)), (1, .int x1), (2, .int x2), (3, .int x3), (4, .int x4), (5, .ref o)]) hx hb dZ_change_21 hl (by decide) rfl (fun ls hl => ?_)
      refine lv_iconst (pc := 23) (v := (2 : Int32)) hx hb dZ_change_23 (by decide) ?_
      exact z_ret (pc := 24) S hw2 hr hlk (Nat.le_of_ble_eq_true rfl) (Nat.le_of_ble_eq_true rfl) dZ_change_24
def rmZ_end : Room := { frames := 7, cells := 1, slots := 6, locals := 135 }
def wsZ_end : List Cond := .codeWith yZ_end cZ_end 5 (some .int) [(0, 10, 13, 13), (0, 10, 17, 15)] :: jall
set_option maxHeartbeats 4000000 in
set_option maxRecDepth 100000 in
theorem kZ_end (l : Launch) (hl9 : l.stackTraces = false) (D : va_G) (ca : Nat → ClassId) (ad : Nat → Nat) (o : Nat) (cJ : ClassId) (sz : Nat) (σ : JS) (g : Nat → Int64) (x1 : Int32) (x2 : Int32) (ko : Nat) (vo : Int32) (σo : JS) (hf : mH_end σ x1 x2 = some (ko, vo, σo)) : Met l yZ_end wsZ_end rmZ_end (jPre D (lT ca cJ) (lC ca ad o cJ σ g) (fun U => xN (va_A (lC ca ad o cJ σ g) sz) U ∧ va_Nc (jE 2) (jE 1) U) sz [.ref (ad 0), .int x1, .int x2, .ref o]) (zQ D ca ad o cJ (va_A (lC ca ad o cJ σ g) sz) (zR ko) σo (zG ko vo g)) 1 6 (va_A (lC ca ad o cJ σ g) sz) := by
  refine va_MetW (cc := cZ_end) (maxL := 5) (ret := some .int) (hh := [(0, 10, 13, 13), (0, 10, 17, 15)]) (by decide) rfl ?_
  intro p e s m args below meth c s₁ B hml hv
  obtain ⟨rfl, hsz, hP, hK, hD0, hNA, hNc⟩ := hv
  subst hsz
  have htab : c.exceptionTable.toList = [⟨0, 10, 13, 13⟩, ⟨0, 10, 17, 15⟩] := by
    obtain ⟨m9, meth9, c9, g1, g2, g3, -, -, g6, -⟩ := Cond.codeWith_spec (atoms_spec (ws := wsZ_end) B.pre _ List.mem_cons_self)
    cases Option.some.inj (g1.symm.trans B.named)
    cases Option.some.inj (g2.symm.trans B.method)
    cases Option.some.inj (g3.symm.trans (Stand.of_body B).code)
    have h7 := table_eq c.exceptionTable.toList
    rw [g6] at h7
    exact h7.symm
  have S : CallFix p m c cZ_end 5 s _ jall RZ := ⟨B.exec, B.bytes, hml, findClass_of_methodNamed B.named, fun w h => atoms_spec (ws := wsZ_end) B.pre w (List.mem_cons_of_mem _ h)⟩
  have hx := S.1
  have hb := S.2.1
  have hr := B.returns
  have hlk := B.notSynchronized
  have hw : jH D (lT ca cJ) (lC ca ad o cJ σ g) (va_A (lC ca ad o cJ σ g) s.heap.size) s.heap s.heap [] s := ⟨hP, hD0.self, va_S.rf, hK⟩
  have hA : ∀ q : Nat, s.heap.size ≤ q → va_A (lC ca ad o cJ σ g) s.heap.size q := fun q h => Or.inr h
  generalize va_A (lC ca ad o cJ σ g) s.heap.size = A at hw hA hNA ⊢
  have hwx : jH D (xT ca) (xC ca ad σ) A s.heap s.heap [] s := jH_left hw (lT_x ca cJ)
  have hl := lv_entry [.ref (ad 0), .int x1, .int x2, .ref o] (n := 5) (Nat.le_of_ble_eq_true rfl)
  rw [lg_entry_eq]
  generalize (lg_sl [.ref (ad 0), .int x1, .int x2, .ref o] ++ List.replicate (5 - (lg_sl [.ref (ad 0), .int x1, .int x2, .ref o]).length) Slot.unset).toArray = ls at hl ⊢
  have hl : lv_has ls 5 [(0, .ref (ad 0)), (1, .int x1), (2, .int x2), (3, .ref o)] := hl
  refine lv_aload_n (pc := 0) hx hb dZ_end_0 rfl (lv_at hl 3 rfl) ?_
  refine lv_iconst (pc := 1) (v := (0 : Int32)) hx hb dZ_end_1 (by decide) ?_
  refine lv_aload_n (pc := 2) hx hb dZ_end_2 rfl (lv_at hl 0 rfl) ?_
  refine lv_iload_n (pc := 3) hx hb dZ_end_3 rfl (lv_at hl 1 rfl) ?_
  refine lv_iload_n (pc := 4) hx hb dZ_end_4 rfl (lv_at hl 2 rfl) ?_
  by_cases hz : ko = 0
  · subst hz
    refine j_calliF (pc := 5) (C := xC ca ad) (σ' := σo) (v := vo) hw hA (va_runV (As := [.int x1, .int x2]) (rest := [.int 0, .ref o]) S (knH_end l D ca ad _ σ x1 x2 vo σo hf) (cwV 2 S.2.2.2.2 (jgV k_420 k_421 k_422 k_1 k_423) rfl rfl rfl (by decide +kernel) ⟨Nat.le_of_ble_eq_true rfl, Nat.le_of_ble_eq_true rfl⟩) (j_preV (As := [.int x1, .int x2]) hwx xN_b (xN_to (s := s) (A := A) hNA hwx hA) rfl xg_0) rfl rfl hl.1 rfl (lv_room (Nat.le_of_ble_eq_true rfl)) dZ_end_5 ⟨Nat.le_of_ble_eq_true rfl, Nat.le_of_ble_eq_true rfl⟩) (fun H locs hw => ?_)
    refine lv_i2l (pc := 8) (v := vo.toInt64) hx hb dZ_end_8 rfl ?_
    refine va_last (pc := 9) hx hb hw.2.2.2 hw.1 hw.2.1 hw.2.2.1 30 24 (cA := cJ) (n := 1) (f := g) rfl rfl (i := (0 : Int32)) (x := vo.toInt64) vp00 dZ_end_9 (fun H locs hP hD hS => ?_)
    have hw : jH D (lT ca cJ) (lC ca ad o cJ σo (vp_updL g 0 vo.toInt64)) A s.heap H locs s := ⟨hP, hD, hS, hw.2.2.2⟩
    refine lv_goto (pc := 10) (tgt := 21) hx hb dZ_end_10 (by decide) ?_
    refine lv_iconst (pc := 21) (v := (0 : Int32)) hx hb dZ_end_21 (by decide) ?_
    exact z_ret (pc := 22) S hw hr hlk (Nat.le_of_ble_eq_true rfl) (Nat.le_of_ble_eq_true rfl) dZ_end_22
  · refine jx_callV (pc := 5) (As := [.int x1, .int x2]) (rest := [.int 0, .ref o]) S (kxH_end l hl9 D ca ad _ σ x1 x2 ko vo σo hz hf) (cwV 2 S.2.2.2.2 (jgV k_420 k_421 k_422 k_1 k_423) rfl rfl rfl (by decide +kernel) ⟨Nat.le_of_ble_eq_true rfl, Nat.le_of_ble_eq_true rfl⟩) (j_preV (As := [.int x1, .int x2]) hwx xN_b (xN_to (s := s) (A := A) hNA hwx hA) rfl xg_0) rfl hl.1 (Nat.le_of_ble_eq_true rfl) dZ_end_5 ⟨Nat.le_of_ble_eq_true rfl, Nat.le_of_ble_eq_true rfl⟩ (fun q ce t L hce hcv hcl hal hB hL hz1 hk9 => ?_)
    have hf2 := j_free hwx hA
    have hS2 : va_S A s.heap t.heap ([] ++ L) := ⟨hz1, fun q h1 h2 => hk9 q h1 (fun z => h2 (hf2 q z)), fun z hz9 => hf2 _ (hL z (by simpa using hz9))⟩
    have hw2 : jH D (lT ca cJ) (lC ca ad o cJ σo g) A s.heap t.heap ([] ++ L) s := jH_frame hw hA hk9 hB.1 hB.2.2 hS2
    by_cases h1 : ko = 1
    · subst h1
      refine jx_catchA (own := RZ) (E := jE 1) (nx := jE 1) S.2.2.2.1 htab (by decide) (by decide) (S.2.2.2.2 _ k_272) (xN_w hNA b_280 _) hce hcv hcl ?_
      refine lv_astore (pc := 13) (lv' := [(4, .ref q), (0, .ref (ad 0)), (1, .int x1), (2, .int x2), (3, .ref o)]) hx hb dZ_end_13 hl (by decide) rfl (fun ls hl => ?_)
      refine lv_iconst (pc := 15) (v := (1 : Int32)) hx hb dZ_end_15 (by decide) ?_
      exact z_ret (pc := 16) S hw2 hr hlk (Nat.le_of_ble_eq_true rfl) (Nat.le_of_ble_eq_true rfl) dZ_end_16
    · rw [jE_2 h1] at hcl
      have e9 : zR ko = 2 := by unfold zR; rw [if_neg hz, if_neg h1]
      have e8 : zG ko vo g = g := if_neg hz
      rw [e9, e8]
      refine jx_catchB (own := RZ) (E := jE 2) (ny := jE 1) (nx := jE 2) S.2.2.2.1 htab (by decide) (by decide) (S.2.2.2.2 _ k_272) hNc (by decide) (by decide) (S.2.2.2.2 _ k_273) (xN_w hNA b_342 _) hce hcv hcl ?_
      refine lv_astore (pc := 17) (lv' := [(4, .ref q), (0, .ref (ad 0)), (1, .int x1), (2, .int x2), (3, .ref o)]) hx hb dZ_end_17 hl (by decide) rfl (fun ls hl => ?_)
      refine lv_iconst (pc := 19) (v := (2 : Int32)) hx hb dZ_end_19 (by decide) ?_
      exact z_ret (pc := 20) S hw2 hr hlk (Nat.le_of_ble_eq_true rfl) (Nat.le_of_ble_eq_true rfl) dZ_end_20
def rmZ_save : Room := { frames := 7, cells := 1, slots := 6, locals := 110 }
def wsZ_save : List Cond := .codeWith yZ_save cZ_save 5 (some .int) [(0, 10, 13, 13), (0, 10, 17, 15)] :: jall
set_option maxHeartbeats 4000000 in
set_option maxRecDepth 100000 in
theorem kZ_save (l : Launch) (hl9 : l.stackTraces = false) (D : va_G) (ca : Nat → ClassId) (ad : Nat → Nat) (o : Nat) (cJ : ClassId) (sz : Nat) (σ : JS) (g : Nat → Int64) (x1 : Int32) (x2 : Int32) (ko : Nat) (vo : Int32) (σo : JS) (hf : mH_save σ x1 x2 = some (ko, vo, σo)) : Met l yZ_save wsZ_save rmZ_save (jPre D (lT ca cJ) (lC ca ad o cJ σ g) (fun U => xN (va_A (lC ca ad o cJ σ g) sz) U ∧ va_Nc (jE 2) (jE 1) U) sz [.ref (ad 0), .int x1, .int x2, .ref o]) (zQ D ca ad o cJ (va_A (lC ca ad o cJ σ g) sz) (zR ko) σo (zG ko vo g)) 1 6 (va_A (lC ca ad o cJ σ g) sz) := by
  refine va_MetW (cc := cZ_save) (maxL := 5) (ret := some .int) (hh := [(0, 10, 13, 13), (0, 10, 17, 15)]) (by decide) rfl ?_
  intro p e s m args below meth c s₁ B hml hv
  obtain ⟨rfl, hsz, hP, hK, hD0, hNA, hNc⟩ := hv
  subst hsz
  have htab : c.exceptionTable.toList = [⟨0, 10, 13, 13⟩, ⟨0, 10, 17, 15⟩] := by
    obtain ⟨m9, meth9, c9, g1, g2, g3, -, -, g6, -⟩ := Cond.codeWith_spec (atoms_spec (ws := wsZ_save) B.pre _ List.mem_cons_self)
    cases Option.some.inj (g1.symm.trans B.named)
    cases Option.some.inj (g2.symm.trans B.method)
    cases Option.some.inj (g3.symm.trans (Stand.of_body B).code)
    have h7 := table_eq c.exceptionTable.toList
    rw [g6] at h7
    exact h7.symm
  have S : CallFix p m c cZ_save 5 s _ jall RZ := ⟨B.exec, B.bytes, hml, findClass_of_methodNamed B.named, fun w h => atoms_spec (ws := wsZ_save) B.pre w (List.mem_cons_of_mem _ h)⟩
  have hx := S.1
  have hb := S.2.1
  have hr := B.returns
  have hlk := B.notSynchronized
  have hw : jH D (lT ca cJ) (lC ca ad o cJ σ g) (va_A (lC ca ad o cJ σ g) s.heap.size) s.heap s.heap [] s := ⟨hP, hD0.self, va_S.rf, hK⟩
  have hA : ∀ q : Nat, s.heap.size ≤ q → va_A (lC ca ad o cJ σ g) s.heap.size q := fun q h => Or.inr h
  generalize va_A (lC ca ad o cJ σ g) s.heap.size = A at hw hA hNA ⊢
  have hwx : jH D (xT ca) (xC ca ad σ) A s.heap s.heap [] s := jH_left hw (lT_x ca cJ)
  have hl := lv_entry [.ref (ad 0), .int x1, .int x2, .ref o] (n := 5) (Nat.le_of_ble_eq_true rfl)
  rw [lg_entry_eq]
  generalize (lg_sl [.ref (ad 0), .int x1, .int x2, .ref o] ++ List.replicate (5 - (lg_sl [.ref (ad 0), .int x1, .int x2, .ref o]).length) Slot.unset).toArray = ls at hl ⊢
  have hl : lv_has ls 5 [(0, .ref (ad 0)), (1, .int x1), (2, .int x2), (3, .ref o)] := hl
  refine lv_aload_n (pc := 0) hx hb dZ_save_0 rfl (lv_at hl 3 rfl) ?_
  refine lv_iconst (pc := 1) (v := (0 : Int32)) hx hb dZ_save_1 (by decide) ?_
  refine lv_aload_n (pc := 2) hx hb dZ_save_2 rfl (lv_at hl 0 rfl) ?_
  refine lv_iload_n (pc := 3) hx hb dZ_save_3 rfl (lv_at hl 1 rfl) ?_
  refine lv_iload_n (pc := 4) hx hb dZ_save_4 rfl (lv_at hl 2 rfl) ?_
  by_cases hz : ko = 0
  · subst hz
    refine j_calliF (pc := 5) (C := xC ca ad) (σ' := σo) (v := vo) hw hA (va_runV (As := [.int x1, .int x2]) (rest := [.int 0, .ref o]) S (knH_save l D ca ad _ σ x1 x2 vo σo hf) (cwV 2 S.2.2.2.2 (jgV k_436 k_437 k_438 k_1 k_439) rfl rfl rfl (by decide +kernel) ⟨Nat.le_of_ble_eq_true rfl, Nat.le_of_ble_eq_true rfl⟩) (j_preV (As := [.int x1, .int x2]) hwx xN_b (xN_to (s := s) (A := A) hNA hwx hA) rfl xg_0) rfl rfl hl.1 rfl (lv_room (Nat.le_of_ble_eq_true rfl)) dZ_save_5 ⟨Nat.le_of_ble_eq_true rfl, Nat.le_of_ble_eq_true rfl⟩) (fun H locs hw => ?_)
    refine lv_i2l (pc := 8) (v := vo.toInt64) hx hb dZ_save_8 rfl ?_
    refine va_last (pc := 9) hx hb hw.2.2.2 hw.1 hw.2.1 hw.2.2.1 30 24 (cA := cJ) (n := 1) (f := g) rfl rfl (i := (0 : Int32)) (x := vo.toInt64) vp00 dZ_save_9 (fun H locs hP hD hS => ?_)
    have hw : jH D (lT ca cJ) (lC ca ad o cJ σo (vp_updL g 0 vo.toInt64)) A s.heap H locs s := ⟨hP, hD, hS, hw.2.2.2⟩
    refine lv_goto (pc := 10) (tgt := 21) hx hb dZ_save_10 (by decide) ?_
    refine lv_iconst (pc := 21) (v := (0 : Int32)) hx hb dZ_save_21 (by decide) ?_
    exact z_ret (pc := 22) S hw hr hlk (Nat.le_of_ble_eq_true rfl) (Nat.le_of_ble_eq_true rfl) dZ_save_22
  · refine jx_callV (pc := 5) (As := [.int x1, .int x2]) (rest := [.int 0, .ref o]) S (kxH_save l hl9 D ca ad _ σ x1 x2 ko vo σo hz hf) (cwV 2 S.2.2.2.2 (jgV k_436 k_437 k_438 k_1 k_439) rfl rfl rfl (by decide +kernel) ⟨Nat.le_of_ble_eq_true rfl, Nat.le_of_ble_eq_true rfl⟩) (j_preV (As := [.int x1, .int x2]) hwx xN_b (xN_to (s := s) (A := A) hNA hwx hA) rfl xg_0) rfl hl.1 (Nat.le_of_ble_eq_true rfl) dZ_save_5 ⟨Nat.le_of_ble_eq_true rfl, Nat.le_of_ble_eq_true rfl⟩ (fun q ce t L hce hcv hcl hal hB hL hz1 hk9 => ?_)
    have hf2 := j_free hwx hA
    have hS2 : va_S A s.heap t.heap ([] ++ L) := ⟨hz1, fun q h1 h2 => hk9 q h1 (fun z => h2 (hf2 q z)), fun z hz9 => hf2 _ (hL z (by simpa using hz9))⟩
    have hw2 : jH D (lT ca cJ) (lC ca ad o cJ σo g) A s.heap t.heap ([] ++ L) s := jH_frame hw hA hk9 hB.1 hB.2.2 hS2
    by_cases h1 : ko = 1
    · subst h1
      refine jx_catchA (own := RZ) (E := jE 1) (nx := jE 1) S.2.2.2.1 htab (by decide) (by decide) (S.2.2.2.2 _ k_272) (xN_w hNA b_280 _) hce hcv hcl ?_
      refine lv_astore (pc := 13) (lv' := [(4, .ref q), (0, .ref (ad 0)), (1, .int x1), (2, .int x2), (3, .ref o)]) hx hb dZ_save_13 hl (by decide) rfl (fun ls hl => ?_)
      refine lv_iconst (pc := 15) (v := (1 : Int32)) hx hb dZ_save_15 (by decide) ?_
      exact z_ret (pc := 16) S hw2 hr hlk (Nat.le_of_ble_eq_true rfl) (Nat.le_of_ble_eq_true rfl) dZ_save_16
    · rw [jE_2 h1] at hcl
      have e9 : zR ko = 2 := by unfold zR; rw [if_neg hz, if_neg h1]
      have e8 : zG ko vo g = g := if_neg hz
      rw [e9, e8]
      refine jx_catchB (own := RZ) (E := jE 2) (ny := jE 1) (nx := jE 2) S.2.2.2.1 htab (by decide) (by decide) (S.2.2.2.2 _ k_272) hNc (by decide) (by decide) (S.2.2.2.2 _ k_273) (xN_w hNA b_342 _) hce hcv hcl ?_
      refine lv_astore (pc := 17) (lv' := [(4, .ref q), (0, .ref (ad 0)), (1, .int x1), (2, .int x2), (3, .ref o)]) hx hb dZ_save_17 hl (by decide) rfl (fun ls hl => ?_)
      refine lv_iconst (pc := 19) (v := (2 : Int32)) hx hb dZ_save_19 (by decide) ?_
      exact z_ret (pc := 20) S hw2 hr hlk (Nat.le_of_ble_eq_true rfl) (Nat.le_of_ble_eq_true rfl) dZ_save_20
def rmZ_restore : Room := { frames := 8, cells := 1, slots := 6, locals := 139 }
def wsZ_restore : List Cond := .codeWith yZ_restore cZ_restore 4 (some .int) [(0, 9, 12, 13), (0, 9, 15, 15)] :: jall
set_option maxHeartbeats 4000000 in
set_option maxRecDepth 100000 in
theorem kZ_restore (l : Launch) (hl9 : l.stackTraces = false) (D : va_G) (ca : Nat → ClassId) (ad : Nat → Nat) (o : Nat) (cJ : ClassId) (sz : Nat) (σ : JS) (g : Nat → Int64) (x1 : Int32) (ko : Nat) (vo : Int32) (σo : JS) (hf : mH_restore σ x1 = some (ko, vo, σo)) : Met l yZ_restore wsZ_restore rmZ_restore (jPre D (lT ca cJ) (lC ca ad o cJ σ g) (fun U => xN (va_A (lC ca ad o cJ σ g) sz) U ∧ va_Nc (jE 2) (jE 1) U) sz [.ref (ad 0), .int x1, .ref o]) (zQ D ca ad o cJ (va_A (lC ca ad o cJ σ g) sz) (zR ko) σo (zG ko vo g)) 1 6 (va_A (lC ca ad o cJ σ g) sz) := by
  refine va_MetW (cc := cZ_restore) (maxL := 4) (ret := some .int) (hh := [(0, 9, 12, 13), (0, 9, 15, 15)]) (by decide) rfl ?_
  intro p e s m args below meth c s₁ B hml hv
  obtain ⟨rfl, hsz, hP, hK, hD0, hNA, hNc⟩ := hv
  subst hsz
  have htab : c.exceptionTable.toList = [⟨0, 9, 12, 13⟩, ⟨0, 9, 15, 15⟩] := by
    obtain ⟨m9, meth9, c9, g1, g2, g3, -, -, g6, -⟩ := Cond.codeWith_spec (atoms_spec (ws := wsZ_restore) B.pre _ List.mem_cons_self)
    cases Option.some.inj (g1.symm.trans B.named)
    cases Option.some.inj (g2.symm.trans B.method)
    cases Option.some.inj (g3.symm.trans (Stand.of_body B).code)
    have h7 := table_eq c.exceptionTable.toList
    rw [g6] at h7
    exact h7.symm
  have S : CallFix p m c cZ_restore 4 s _ jall RZ := ⟨B.exec, B.bytes, hml, findClass_of_methodNamed B.named, fun w h => atoms_spec (ws := wsZ_restore) B.pre w (List.mem_cons_of_mem _ h)⟩
  have hx := S.1
  have hb := S.2.1
  have hr := B.returns
  have hlk := B.notSynchronized
  have hw : jH D (lT ca cJ) (lC ca ad o cJ σ g) (va_A (lC ca ad o cJ σ g) s.heap.size) s.heap s.heap [] s := ⟨hP, hD0.self, va_S.rf, hK⟩
  have hA : ∀ q : Nat, s.heap.size ≤ q → va_A (lC ca ad o cJ σ g) s.heap.size q := fun q h => Or.inr h
  generalize va_A (lC ca ad o cJ σ g) s.heap.size = A at hw hA hNA ⊢
  have hwx : jH D (xT ca) (xC ca ad σ) A s.heap s.heap [] s := jH_left hw (lT_x ca cJ)
  have hl := lv_entry [.ref (ad 0), .int x1, .ref o] (n := 4) (Nat.le_of_ble_eq_true rfl)
  rw [lg_entry_eq]
  generalize (lg_sl [.ref (ad 0), .int x1, .ref o] ++ List.replicate (4 - (lg_sl [.ref (ad 0), .int x1, .ref o]).length) Slot.unset).toArray = ls at hl ⊢
  have hl : lv_has ls 4 [(0, .ref (ad 0)), (1, .int x1), (2, .ref o)] := hl
  refine lv_aload_n (pc := 0) hx hb dZ_restore_0 rfl (lv_at hl 2 rfl) ?_
  refine lv_iconst (pc := 1) (v := (0 : Int32)) hx hb dZ_restore_1 (by decide) ?_
  refine lv_aload_n (pc := 2) hx hb dZ_restore_2 rfl (lv_at hl 0 rfl) ?_
  refine lv_iload_n (pc := 3) hx hb dZ_restore_3 rfl (lv_at hl 1 rfl) ?_
  by_cases hz : ko = 0
  · subst hz
    refine j_calliF (pc := 4) (C := xC ca ad) (σ' := σo) (v := vo) hw hA (va_runV (As := [.int x1]) (rest := [.int 0, .ref o]) S (knH_restore l D ca ad _ σ x1 vo σo hf) (cwV 1 S.2.2.2.2 (jgV k_458 k_459 k_460 k_1 k_461) rfl rfl rfl (by decide +kernel) ⟨Nat.le_of_ble_eq_true rfl, Nat.le_of_ble_eq_true rfl⟩) (j_preV (As := [.int x1]) hwx xN_b (xN_to (s := s) (A := A) hNA hwx hA) rfl xg_0) rfl rfl hl.1 rfl (lv_room (Nat.le_of_ble_eq_true rfl)) dZ_restore_4 ⟨Nat.le_of_ble_eq_true rfl, Nat.le_of_ble_eq_true rfl⟩) (fun H locs hw => ?_)
    refine lv_i2l (pc := 7) (v := vo.toInt64) hx hb dZ_restore_7 rfl ?_
    refine va_last (pc := 8) hx hb hw.2.2.2 hw.1 hw.2.1 hw.2.2.1 30 24 (cA := cJ) (n := 1) (f := g) rfl rfl (i := (0 : Int32)) (x := vo.toInt64) vp00 dZ_restore_8 (fun H locs hP hD hS => ?_)
    have hw : jH D (lT ca cJ) (lC ca ad o cJ σo (vp_updL g 0 vo.toInt64)) A s.heap H locs s := ⟨hP, hD, hS, hw.2.2.2⟩
    refine lv_goto (pc := 9) (tgt := 18) hx hb dZ_restore_9 (by decide) ?_
    refine lv_iconst (pc := 18) (v := (0 : Int32)) hx hb dZ_restore_18 (by decide) ?_
    exact z_ret (pc := 19) S hw hr hlk (Nat.le_of_ble_eq_true rfl) (Nat.le_of_ble_eq_true rfl) dZ_restore_19
  · refine jx_callV (pc := 4) (As := [.int x1]) (rest := [.int 0, .ref o]) S (kxH_restore l hl9 D ca ad _ σ x1 ko vo σo hz hf) (cwV 1 S.2.2.2.2 (jgV k_458 k_459 k_460 k_1 k_461) rfl rfl rfl (by decide +kernel) ⟨Nat.le_of_ble_eq_true rfl, Nat.le_of_ble_eq_true rfl⟩) (j_preV (As := [.int x1]) hwx xN_b (xN_to (s := s) (A := A) hNA hwx hA) rfl xg_0) rfl hl.1 (Nat.le_of_ble_eq_true rfl) dZ_restore_4 ⟨Nat.le_of_ble_eq_true rfl, Nat.le_of_ble_eq_true rfl⟩ (fun q ce t L hce hcv hcl hal hB hL hz1 hk9 => ?_)
    have hf2 := j_free hwx hA
    have hS2 : va_S A s.heap t.heap ([] ++ L) := ⟨hz1, fun q h1 h2 => hk9 q h1 (fun z => h2 (hf2 q z)), fun z hz9 => hf2 _ (hL z (by simpa using hz9))⟩
    have hw2 : jH D (lT ca cJ) (lC ca ad o cJ σo g) A s.heap t.heap ([] ++ L) s := jH_frame hw hA hk9 hB.1 hB.2.2 hS2
    by_cases h1 : ko = 1
    · subst h1
      refine jx_catchA (own := RZ) (E := jE 1) (nx := jE 1) S.2.2.2.1 htab (by decide) (by decide) (S.2.2.2.2 _ k_272) (xN_w hNA b_280 _) hce hcv hcl ?_
      refine lv_astore_n (pc := 12) (lv' := [(3, .ref q), (0, .ref (ad 0)), (1, .int x1), (2, .ref o)]) hx hb dZ_restore_12 rfl hl (by decide) rfl (fun ls hl => ?_)
      refine lv_iconst (pc := 13) (v := (1 : Int32)) hx hb dZ_restore_13 (by decide) ?_
      exact z_ret (pc := 14) S hw2 hr hlk (Nat.le_of_ble_eq_true rfl) (Nat.le_of_ble_eq_true rfl) dZ_restore_14
    · rw [jE_2 h1] at hcl
      have e9 : zR ko = 2 := by unfold zR; rw [if_neg hz, if_neg h1]
      have e8 : zG ko vo g = g := if_neg hz
      rw [e9, e8]
      refine jx_catchB (own := RZ) (E := jE 2) (ny := jE 1) (nx := jE 2) S.2.2.2.1 htab (by decide) (by decide) (S.2.2.2.2 _ k_272) hNc (by decide) (by decide) (S.2.2.2.2 _ k_273) (xN_w hNA b_342 _) hce hcv hcl ?_
      refine lv_astore_n (pc := 15) (lv' := [(3, .ref q), (0, .ref (ad 0)), (1, .int x1), (2, .ref o)]) hx hb dZ_restore_15 rfl hl (by decide) rfl (fun ls hl => ?_)
      refine lv_iconst (pc := 16) (v := (2 : Int32)) hx hb dZ_restore_16 (by decide) ?_
      exact z_ret (pc := 17) S hw2 hr hlk (Nat.le_of_ble_eq_true rfl) (Nat.le_of_ble_eq_true rfl) dZ_restore_17
def rmZ_apply : Room := { frames := 8, cells := 1, slots := 6, locals := 138 }
def wsZ_apply : List Cond := .codeWith yZ_apply cZ_apply 5 (some .int) [(0, 10, 13, 13), (0, 10, 17, 15)] :: jall
set_option maxHeartbeats 4000000 in
set_option maxRecDepth 100000 in
theorem kZ_apply (l : Launch) (hl9 : l.stackTraces = false) (D : va_G) (ca : Nat → ClassId) (ad : Nat → Nat) (o : Nat) (cJ : ClassId) (sz : Nat) (σ : JS) (g : Nat → Int64) (x1 : Int32) (x2 : Int32) (ko : Nat) (vo : Int32) (σo : JS) (hf : mH_apply σ x1 x2 = some (ko, vo, σo)) : Met l yZ_apply wsZ_apply rmZ_apply (jPre D (lT ca cJ) (lC ca ad o cJ σ g) (fun U => xN (va_A (lC ca ad o cJ σ g) sz) U ∧ va_Nc (jE 2) (jE 1) U) sz [.ref (ad 0), .int x1, .int x2, .ref o]) (zQ D ca ad o cJ (va_A (lC ca ad o cJ σ g) sz) (zR ko) σo (zG ko vo g)) 1 6 (va_A (lC ca ad o cJ σ g) sz) := by
  refine va_MetW (cc := cZ_apply) (maxL := 5) (ret := some .int) (hh := [(0, 10, 13, 13), (0, 10, 17, 15)]) (by decide) rfl ?_
  intro p e s m args below meth c s₁ B hml hv
  obtain ⟨rfl, hsz, hP, hK, hD0, hNA, hNc⟩ := hv
  subst hsz
  have htab : c.exceptionTable.toList = [⟨0, 10, 13, 13⟩, ⟨0, 10, 17, 15⟩] := by
    obtain ⟨m9, meth9, c9, g1, g2, g3, -, -, g6, -⟩ := Cond.codeWith_spec (atoms_spec (ws := wsZ_apply) B.pre _ List.mem_cons_self)
    cases Option.some.inj (g1.symm.trans B.named)
    cases Option.some.inj (g2.symm.trans B.method)
    cases Option.some.inj (g3.symm.trans (Stand.of_body B).code)
    have h7 := table_eq c.exceptionTable.toList
    rw [g6] at h7
    exact h7.symm
  have S : CallFix p m c cZ_apply 5 s _ jall RZ := ⟨B.exec, B.bytes, hml, findClass_of_methodNamed B.named, fun w h => atoms_spec (ws := wsZ_apply) B.pre w (List.mem_cons_of_mem _ h)⟩
  have hx := S.1
  have hb := S.2.1
  have hr := B.returns
  have hlk := B.notSynchronized
  have hw : jH D (lT ca cJ) (lC ca ad o cJ σ g) (va_A (lC ca ad o cJ σ g) s.heap.size) s.heap s.heap [] s := ⟨hP, hD0.self, va_S.rf, hK⟩
  have hA : ∀ q : Nat, s.heap.size ≤ q → va_A (lC ca ad o cJ σ g) s.heap.size q := fun q h => Or.inr h
  generalize va_A (lC ca ad o cJ σ g) s.heap.size = A at hw hA hNA ⊢
  have hwx : jH D (xT ca) (xC ca ad σ) A s.heap s.heap [] s := jH_left hw (lT_x ca cJ)
  have hl := lv_entry [.ref (ad 0), .int x1, .int x2, .ref o] (n := 5) (Nat.le_of_ble_eq_true rfl)
  rw [lg_entry_eq]
  generalize (lg_sl [.ref (ad 0), .int x1, .int x2, .ref o] ++ List.replicate (5 - (lg_sl [.ref (ad 0), .int x1, .int x2, .ref o]).length) Slot.unset).toArray = ls at hl ⊢
  have hl : lv_has ls 5 [(0, .ref (ad 0)), (1, .int x1), (2, .int x2), (3, .ref o)] := hl
  refine lv_aload_n (pc := 0) hx hb dZ_apply_0 rfl (lv_at hl 3 rfl) ?_
  refine lv_iconst (pc := 1) (v := (0 : Int32)) hx hb dZ_apply_1 (by decide) ?_
  refine lv_aload_n (pc := 2) hx hb dZ_apply_2 rfl (lv_at hl 0 rfl) ?_
  refine lv_iload_n (pc := 3) hx hb dZ_apply_3 rfl (lv_at hl 1 rfl) ?_
  refine lv_iload_n (pc := 4) hx hb dZ_apply_4 rfl (lv_at hl 2 rfl) ?_
  by_cases hz : ko = 0
  · subst hz
    refine j_calliF (pc := 5) (C := xC ca ad) (σ' := σo) (v := vo) hw hA (va_runV (As := [.int x1, .int x2]) (rest := [.int 0, .ref o]) S (knH_apply l D ca ad _ σ x1 x2 vo σo hf) (cwV 2 S.2.2.2.2 (jgV k_478 k_479 k_480 k_1 k_481) rfl rfl rfl (by decide +kernel) ⟨Nat.le_of_ble_eq_true rfl, Nat.le_of_ble_eq_true rfl⟩) (j_preV (As := [.int x1, .int x2]) hwx xN_b (xN_to (s := s) (A := A) hNA hwx hA) rfl xg_0) rfl rfl hl.1 rfl (lv_room (Nat.le_of_ble_eq_true rfl)) dZ_apply_5 ⟨Nat.le_of_ble_eq_true rfl, Nat.le_of_ble_eq_true rfl⟩) (fun H locs hw => ?_)
    refine lv_i2l (pc := 8) (v := vo.toInt64) hx hb dZ_apply_8 rfl ?_
    refine va_last (pc := 9) hx hb hw.2.2.2 hw.1 hw.2.1 hw.2.2.1 30 24 (cA := cJ) (n := 1) (f := g) rfl rfl (i := (0 : Int32)) (x := vo.toInt64) vp00 dZ_apply_9 (fun H locs hP hD hS => ?_)
    have hw : jH D (lT ca cJ) (lC ca ad o cJ σo (vp_updL g 0 vo.toInt64)) A s.heap H locs s := ⟨hP, hD, hS, hw.2.2.2⟩
    refine lv_goto (pc := 10) (tgt := 21) hx hb dZ_apply_10 (by decide) ?_
    refine lv_iconst (pc := 21) (v := (0 : Int32)) hx hb dZ_apply_21 (by decide) ?_
    exact z_ret (pc := 22) S hw hr hlk (Nat.le_of_ble_eq_true rfl) (Nat.le_of_ble_eq_true rfl) dZ_apply_22
  · refine jx_callV (pc := 5) (As := [.int x1, .int x2]) (rest := [.int 0, .ref o]) S (kxH_apply l hl9 D ca ad _ σ x1 x2 ko vo σo hz hf) (cwV 2 S.2.2.2.2 (jgV k_478 k_479 k_480 k_1 k_481) rfl rfl rfl (by decide +kernel) ⟨Nat.le_of_ble_eq_true rfl, Nat.le_of_ble_eq_true rfl⟩) (j_preV (As := [.int x1, .int x2]) hwx xN_b (xN_to (s := s) (A := A) hNA hwx hA) rfl xg_0) rfl hl.1 (Nat.le_of_ble_eq_true rfl) dZ_apply_5 ⟨Nat.le_of_ble_eq_true rfl, Nat.le_of_ble_eq_true rfl⟩ (fun q ce t L hce hcv hcl hal hB hL hz1 hk9 => ?_)
    have hf2 := j_free hwx hA
    have hS2 : va_S A s.heap t.heap ([] ++ L) := ⟨hz1, fun q h1 h2 => hk9 q h1 (fun z => h2 (hf2 q z)), fun z hz9 => hf2 _ (hL z (by simpa using hz9))⟩
    have hw2 : jH D (lT ca cJ) (lC ca ad o cJ σo g) A s.heap t.heap ([] ++ L) s := jH_frame hw hA hk9 hB.1 hB.2.2 hS2
    by_cases h1 : ko = 1
    · subst h1
      refine jx_catchA (own := RZ) (E := jE 1) (nx := jE 1) S.2.2.2.1 htab (by decide) (by decide) (S.2.2.2.2 _ k_272) (xN_w hNA b_280 _) hce hcv hcl ?_
      refine lv_astore (pc := 13) (lv' := [(4, .ref q), (0, .ref (ad 0)), (1, .int x1), (2, .int x2), (3, .ref o)]) hx hb dZ_apply_13 hl (by decide) rfl (fun ls hl => ?_)
      refine lv_iconst (pc := 15) (v := (1 : Int32)) hx hb dZ_apply_15 (by decide) ?_
      exact z_ret (pc := 16) S hw2 hr hlk (Nat.le_of_ble_eq_true rfl) (Nat.le_of_ble_eq_true rfl) dZ_apply_16
    · rw [jE_2 h1] at hcl
      have e9 : zR ko = 2 := by unfold zR; rw [if_neg hz, if_neg h1]
      have e8 : zG ko vo g = g := if_neg hz
      rw [e9, e8]
      refine jx_catchB (own := RZ) (E := jE 2) (ny := jE 1) (nx := jE 2) S.2.2.2.1 htab (by decide) (by decide) (S.2.2.2.2 _ k_272) hNc (by decide) (by decide) (S.2.2.2.2 _ k_273) (xN_w hNA b_342 _) hce hcv hcl ?_
      refine lv_astore (pc := 17) (lv' := [(4, .ref q), (0, .ref (ad 0)), (1, .int x1), (2, .int x2), (3, .ref o)]) hx hb dZ_apply_17 hl (by decide) rfl (fun ls hl => ?_)
      refine lv_iconst (pc := 19) (v := (2 : Int32)) hx hb dZ_apply_19 (by decide) ?_
      exact z_ret (pc := 20) S hw2 hr hlk (Nat.le_of_ble_eq_true rfl) (Nat.le_of_ble_eq_true rfl) dZ_apply_20
def rmZ_remove : Room := { frames := 8, cells := 1, slots := 6, locals := 140 }
def wsZ_remove : List Cond := .codeWith yZ_remove cZ_remove 5 (some .int) [(0, 10, 13, 13), (0, 10, 17, 15)] :: jall
set_option maxHeartbeats 4000000 in
set_option maxRecDepth 100000 in
theorem kZ_remove (l : Launch) (hl9 : l.stackTraces = false) (D : va_G) (ca : Nat → ClassId) (ad : Nat → Nat) (o : Nat) (cJ : ClassId) (sz : Nat) (σ : JS) (g : Nat → Int64) (x1 : Int32) (x2 : Int32) (ko : Nat) (vo : Int32) (σo : JS) (hf : mH_remove σ x1 x2 = some (ko, vo, σo)) : Met l yZ_remove wsZ_remove rmZ_remove (jPre D (lT ca cJ) (lC ca ad o cJ σ g) (fun U => xN (va_A (lC ca ad o cJ σ g) sz) U ∧ va_Nc (jE 2) (jE 1) U) sz [.ref (ad 0), .int x1, .int x2, .ref o]) (zQ D ca ad o cJ (va_A (lC ca ad o cJ σ g) sz) (zR ko) σo (zG ko vo g)) 1 6 (va_A (lC ca ad o cJ σ g) sz) := by
  refine va_MetW (cc := cZ_remove) (maxL := 5) (ret := some .int) (hh := [(0, 10, 13, 13), (0, 10, 17, 15)]) (by decide) rfl ?_
  intro p e s m args below meth c s₁ B hml hv
  obtain ⟨rfl, hsz, hP, hK, hD0, hNA, hNc⟩ := hv
  subst hsz
  have htab : c.exceptionTable.toList = [⟨0, 10, 13, 13⟩, ⟨0, 10, 17, 15⟩] := by
    obtain ⟨m9, meth9, c9, g1, g2, g3, -, -, g6, -⟩ := Cond.codeWith_spec (atoms_spec (ws := wsZ_remove) B.pre _ List.mem_cons_self)
    cases Option.some.inj (g1.symm.trans B.named)
    cases Option.some.inj (g2.symm.trans B.method)
    cases Option.some.inj (g3.symm.trans (Stand.of_body B).code)
    have h7 := table_eq c.exceptionTable.toList
    rw [g6] at h7
    exact h7.symm
  have S : CallFix p m c cZ_remove 5 s _ jall RZ := ⟨B.exec, B.bytes, hml, findClass_of_methodNamed B.named, fun w h => atoms_spec (ws := wsZ_remove) B.pre w (List.mem_cons_of_mem _ h)⟩
  have hx := S.1
  have hb := S.2.1
  have hr := B.returns
  have hlk := B.notSynchronized
  have hw : jH D (lT ca cJ) (lC ca ad o cJ σ g) (va_A (lC ca ad o cJ σ g) s.heap.size) s.heap s.heap [] s := ⟨hP, hD0.self, va_S.rf, hK⟩
  have hA : ∀ q : Nat, s.heap.size ≤ q → va_A (lC ca ad o cJ σ g) s.heap.size q := fun q h => Or.inr h
  generalize va_A (lC ca ad o cJ σ g) s.heap.size = A at hw hA hNA ⊢
  have hwx : jH D (xT ca) (xC ca ad σ) A s.heap s.heap [] s := jH_left hw (lT_x ca cJ)
  have hl := lv_entry [.ref (ad 0), .int x1, .int x2, .ref o] (n := 5) (Nat.le_of_ble_eq_true rfl)
  rw [lg_entry_eq]
  generalize (lg_sl [.ref (ad 0), .int x1, .int x2, .ref o] ++ List.replicate (5 - (lg_sl [.ref (ad 0), .int x1, .int x2, .ref o]).length) Slot.unset).toArray = ls at hl ⊢
  have hl : lv_has ls 5 [(0, .ref (ad 0)), (1, .int x1), (2, .int x2), (3, .ref o)] := hl
  refine lv_aload_n (pc := 0) hx hb dZ_remove_0 rfl (lv_at hl 3 rfl) ?_
  refine lv_iconst (pc := 1) (v := (0 : Int32)) hx hb dZ_remove_1 (by decide) ?_
  refine lv_aload_n (pc := 2) hx hb dZ_remove_2 rfl (lv_at hl 0 rfl) ?_
  refine lv_iload_n (pc := 3) hx hb dZ_remove_3 rfl (lv_at hl 1 rfl) ?_
  refine lv_iload_n (pc := 4) hx hb dZ_remove_4 rfl (lv_at hl 2 rfl) ?_
  by_cases hz : ko = 0
  · subst hz
    refine j_calliF (pc := 5) (C := xC ca ad) (σ' := σo) (v := vo) hw hA (va_runV (As := [.int x1, .int x2]) (rest := [.int 0, .ref o]) S (knH_remove l D ca ad _ σ x1 x2 vo σo hf) (cwV 2 S.2.2.2.2 (jgV k_503 k_504 k_505 k_1 k_506) rfl rfl rfl (by decide +kernel) ⟨Nat.le_of_ble_eq_true rfl, Nat.le_of_ble_eq_true rfl⟩) (j_preV (As := [.int x1, .int x2]) hwx xN_b (xN_to (s := s) (A := A) hNA hwx hA) rfl xg_0) rfl rfl hl.1 rfl (lv_room (Nat.le_of_ble_eq_true rfl)) dZ_remove_5 ⟨Nat.le_of_ble_eq_true rfl, Nat.le_of_ble_eq_true rfl⟩) (fun H locs hw => ?_)
    refine lv_i2l (pc := 8) (v := vo.toInt64) hx hb dZ_remove_8 rfl ?_
    refine va_last (pc := 9) hx hb hw.2.2.2 hw.1 hw.2.1 hw.2.2.1 30 24 (cA := cJ) (n := 1) (f := g) rfl rfl (i := (0 : Int32)) (x := vo.toInt64) vp00 dZ_remove_9 (fun H locs hP hD hS => ?_)
    have hw : jH D (lT ca cJ) (lC ca ad o cJ σo (vp_updL g 0 vo.toInt64)) A s.heap H locs s := ⟨hP, hD, hS, hw.2.2.2⟩
    refine lv_goto (pc := 10) (tgt := 21) hx hb dZ_remove_10 (by decide) ?_
    refine lv_iconst (pc := 21) (v := (0 : Int32)) hx hb dZ_remove_21 (by decide) ?_
    exact z_ret (pc := 22) S hw hr hlk (Nat.le_of_ble_eq_true rfl) (Nat.le_of_ble_eq_true rfl) dZ_remove_22
  · refine jx_callV (pc := 5) (As := [.int x1, .int x2]) (rest := [.int 0, .ref o]) S (kxH_remove l hl9 D ca ad _ σ x1 x2 ko vo σo hz hf) (cwV 2 S.2.2.2.2 (jgV k_503 k_504 k_505 k_1 k_506) rfl rfl rfl (by decide +kernel) ⟨Nat.le_of_ble_eq_true rfl, Nat.le_of_ble_eq_true rfl⟩) (j_preV (As := [.int x1, .int x2]) hwx xN_b (xN_to (s := s) (A := A) hNA hwx hA) rfl xg_0) rfl hl.1 (Nat.le_of_ble_eq_true rfl) dZ_remove_5 ⟨Nat.le_of_ble_eq_true rfl, Nat.le_of_ble_eq_true rfl⟩ (fun q ce t L hce hcv hcl hal hB hL hz1 hk9 => ?_)
    have hf2 := j_free hwx hA
    have hS2 : va_S A s.heap t.heap ([] ++ L) := ⟨hz1, fun q h1 h2 => hk9 q h1 (fun z => h2 (hf2 q z)), fun z hz9 => hf2 _ (hL z (by simpa using hz9))⟩
    have hw2 : jH D (lT ca cJ) (lC ca ad o cJ σo g) A s.heap t.heap ([] ++ L) s := jH_frame hw hA hk9 hB.1 hB.2.2 hS2
    by_cases h1 : ko = 1
    · subst h1
      refine jx_catchA (own := RZ) (E := jE 1) (nx := jE 1) S.2.2.2.1 htab (by decide) (by decide) (S.2.2.2.2 _ k_272) (xN_w hNA b_280 _) hce hcv hcl ?_
      refine lv_astore (pc := 13) (lv' := [(4, .ref q), (0, .ref (ad 0)), (1, .int x1), (2, .int x2), (3, .ref o)]) hx hb dZ_remove_13 hl (by decide) rfl (fun ls hl => ?_)
      refine lv_iconst (pc := 15) (v := (1 : Int32)) hx hb dZ_remove_15 (by decide) ?_
      exact z_ret (pc := 16) S hw2 hr hlk (Nat.le_of_ble_eq_true rfl) (Nat.le_of_ble_eq_true rfl) dZ_remove_16
    · rw [jE_2 h1] at hcl
      have e9 : zR ko = 2 := by unfold zR; rw [if_neg hz, if_neg h1]
      have e8 : zG ko vo g = g := if_neg hz
      rw [e9, e8]
      refine jx_catchB (own := RZ) (E := jE 2) (ny := jE 1) (nx := jE 2) S.2.2.2.1 htab (by decide) (by decide) (S.2.2.2.2 _ k_272) hNc (by decide) (by decide) (S.2.2.2.2 _ k_273) (xN_w hNA b_342 _) hce hcv hcl ?_
      refine lv_astore (pc := 17) (lv' := [(4, .ref q), (0, .ref (ad 0)), (1, .int x1), (2, .int x2), (3, .ref o)]) hx hb dZ_remove_17 hl (by decide) rfl (fun ls hl => ?_)
      refine lv_iconst (pc := 19) (v := (2 : Int32)) hx hb dZ_remove_19 (by decide) ?_
      exact z_ret (pc := 20) S hw2 hr hlk (Nat.le_of_ble_eq_true rfl) (Nat.le_of_ble_eq_true rfl) dZ_remove_20
def rmZ_drop : Room := { frames := 7, cells := 1, slots := 6, locals := 108 }
def wsZ_drop : List Cond := .codeWith yZ_drop cZ_drop 3 (some .int) [(0, 8, 11, 15)] :: jall
set_option maxHeartbeats 4000000 in
set_option maxRecDepth 100000 in
theorem kZ_drop (l : Launch) (hl9 : l.stackTraces = false) (D : va_G) (ca : Nat → ClassId) (ad : Nat → Nat) (o : Nat) (cJ : ClassId) (sz : Nat) (σ : JS) (g : Nat → Int64)  (ko : Nat) (vo : Int32) (σo : JS) (hk1 : ¬ ko = 1) (hf : mH_drop σ  = some (ko, vo, σo)) : Met l yZ_drop wsZ_drop rmZ_drop (jPre D (lT ca cJ) (lC ca ad o cJ σ g) (fun U => xN (va_A (lC ca ad o cJ σ g) sz) U ∧ va_Nc (jE 2) (jE 1) U) sz [.ref (ad 0), .ref o]) (zQ D ca ad o cJ (va_A (lC ca ad o cJ σ g) sz) (zR1 ko) σo (zG ko vo g)) 1 6 (va_A (lC ca ad o cJ σ g) sz) := by
  refine va_MetW (cc := cZ_drop) (maxL := 3) (ret := some .int) (hh := [(0, 8, 11, 15)]) (by decide) rfl ?_
  intro p e s m args below meth c s₁ B hml hv
  obtain ⟨rfl, hsz, hP, hK, hD0, hNA, hNc⟩ := hv
  subst hsz
  have htab : c.exceptionTable.toList = [⟨0, 8, 11, 15⟩] := by
    obtain ⟨m9, meth9, c9, g1, g2, g3, -, -, g6, -⟩ := Cond.codeWith_spec (atoms_spec (ws := wsZ_drop) B.pre _ List.mem_cons_self)
    cases Option.some.inj (g1.symm.trans B.named)
    cases Option.some.inj (g2.symm.trans B.method)
    cases Option.some.inj (g3.symm.trans (Stand.of_body B).code)
    have h7 := table_eq c.exceptionTable.toList
    rw [g6] at h7
    exact h7.symm
  have S : CallFix p m c cZ_drop 3 s _ jall RZ := ⟨B.exec, B.bytes, hml, findClass_of_methodNamed B.named, fun w h => atoms_spec (ws := wsZ_drop) B.pre w (List.mem_cons_of_mem _ h)⟩
  have hx := S.1
  have hb := S.2.1
  have hr := B.returns
  have hlk := B.notSynchronized
  have hw : jH D (lT ca cJ) (lC ca ad o cJ σ g) (va_A (lC ca ad o cJ σ g) s.heap.size) s.heap s.heap [] s := ⟨hP, hD0.self, va_S.rf, hK⟩
  have hA : ∀ q : Nat, s.heap.size ≤ q → va_A (lC ca ad o cJ σ g) s.heap.size q := fun q h => Or.inr h
  generalize va_A (lC ca ad o cJ σ g) s.heap.size = A at hw hA hNA ⊢
  have hwx : jH D (xT ca) (xC ca ad σ) A s.heap s.heap [] s := jH_left hw (lT_x ca cJ)
  have hl := lv_entry [.ref (ad 0), .ref o] (n := 3) (Nat.le_of_ble_eq_true rfl)
  rw [lg_entry_eq]
  generalize (lg_sl [.ref (ad 0), .ref o] ++ List.replicate (3 - (lg_sl [.ref (ad 0), .ref o]).length) Slot.unset).toArray = ls at hl ⊢
  have hl : lv_has ls 3 [(0, .ref (ad 0)), (1, .ref o)] := hl
  refine lv_aload_n (pc := 0) hx hb dZ_drop_0 rfl (lv_at hl 1 rfl) ?_
  refine lv_iconst (pc := 1) (v := (0 : Int32)) hx hb dZ_drop_1 (by decide) ?_
  refine lv_aload_n (pc := 2) hx hb dZ_drop_2 rfl (lv_at hl 0 rfl) ?_
  by_cases hz : ko = 0
  · subst hz
    refine j_calliF (pc := 3) (C := xC ca ad) (σ' := σo) (v := vo) hw hA (va_runV (As := []) (rest := [.int 0, .ref o]) S (knH_drop l D ca ad _ σ  vo σo hf) (cwV 0 S.2.2.2.2 (jgV k_518 k_519 k_520 k_1 k_521) rfl rfl rfl (by decide +kernel) ⟨Nat.le_of_ble_eq_true rfl, Nat.le_of_ble_eq_true rfl⟩) (j_preV (As := []) hwx xN_b (xN_to (s := s) (A := A) hNA hwx hA) rfl xg_0) rfl rfl hl.1 rfl (lv_room (Nat.le_of_ble_eq_true rfl)) dZ_drop_3 ⟨Nat.le_of_ble_eq_true rfl, Nat.le_of_ble_eq_true rfl⟩) (fun H locs hw => ?_)
    refine lv_i2l (pc := 6) (v := vo.toInt64) hx hb dZ_drop_6 rfl ?_
    refine va_last (pc := 7) hx hb hw.2.2.2 hw.1 hw.2.1 hw.2.2.1 30 24 (cA := cJ) (n := 1) (f := g) rfl rfl (i := (0 : Int32)) (x := vo.toInt64) vp00 dZ_drop_7 (fun H locs hP hD hS => ?_)
    have hw : jH D (lT ca cJ) (lC ca ad o cJ σo (vp_updL g 0 vo.toInt64)) A s.heap H locs s := ⟨hP, hD, hS, hw.2.2.2⟩
    refine lv_goto (pc := 8) (tgt := 14) hx hb dZ_drop_8 (by decide) ?_
    refine lv_iconst (pc := 14) (v := (0 : Int32)) hx hb dZ_drop_14 (by decide) ?_
    exact z_ret (pc := 15) S hw hr hlk (Nat.le_of_ble_eq_true rfl) (Nat.le_of_ble_eq_true rfl) dZ_drop_15
  · refine jx_callV (pc := 3) (As := []) (rest := [.int 0, .ref o]) S (kxH_drop l hl9 D ca ad _ σ  ko vo σo hz hf) (cwV 0 S.2.2.2.2 (jgV k_518 k_519 k_520 k_1 k_521) rfl rfl rfl (by decide +kernel) ⟨Nat.le_of_ble_eq_true rfl, Nat.le_of_ble_eq_true rfl⟩) (j_preV (As := []) hwx xN_b (xN_to (s := s) (A := A) hNA hwx hA) rfl xg_0) rfl hl.1 (Nat.le_of_ble_eq_true rfl) dZ_drop_3 ⟨Nat.le_of_ble_eq_true rfl, Nat.le_of_ble_eq_true rfl⟩ (fun q ce t L hce hcv hcl hal hB hL hz1 hk9 => ?_)
    have hf2 := j_free hwx hA
    have hS2 : va_S A s.heap t.heap ([] ++ L) := ⟨hz1, fun q h1 h2 => hk9 q h1 (fun z => h2 (hf2 q z)), fun z hz9 => hf2 _ (hL z (by simpa using hz9))⟩
    have hw2 : jH D (lT ca cJ) (lC ca ad o cJ σo g) A s.heap t.heap ([] ++ L) s := jH_frame hw hA hk9 hB.1 hB.2.2 hS2
    rw [jE_2 hk1] at hcl
    have e9 : zR1 ko = 1 := if_neg hz
    have e8 : zG ko vo g = g := if_neg hz
    rw [e9, e8]
    refine jx_catchA (own := RZ) (E := jE 2) (nx := jE 2) S.2.2.2.1 htab (by decide) (by decide) (S.2.2.2.2 _ k_273) (xN_w hNA b_342 _) hce hcv hcl ?_
    refine lv_astore_n (pc := 11) (lv' := [(2, .ref q), (0, .ref (ad 0)), (1, .ref o)]) hx hb dZ_drop_11 rfl hl (by decide) rfl (fun ls hl => ?_)
    refine lv_iconst (pc := 12) (v := (1 : Int32)) hx hb dZ_drop_12 (by decide) ?_
    exact z_ret (pc := 13) S hw2 hr hlk (Nat.le_of_ble_eq_true rfl) (Nat.le_of_ble_eq_true rfl) dZ_drop_13
def rmZ_cut : Room := { frames := 7, cells := 1, slots := 6, locals := 109 }
def wsZ_cut : List Cond := .codeWith yZ_cut cZ_cut 4 (some .int) [(0, 9, 12, 13), (0, 9, 15, 15)] :: jall
set_option maxHeartbeats 4000000 in
set_option maxRecDepth 100000 in
theorem kZ_cut (l : Launch) (hl9 : l.stackTraces = false) (D : va_G) (ca : Nat → ClassId) (ad : Nat → Nat) (o : Nat) (cJ : ClassId) (sz : Nat) (σ : JS) (g : Nat → Int64) (x1 : Int32) (ko : Nat) (vo : Int32) (σo : JS) (hf : mH_cut σ x1 = some (ko, vo, σo)) : Met l yZ_cut wsZ_cut rmZ_cut (jPre D (lT ca cJ) (lC ca ad o cJ σ g) (fun U => xN (va_A (lC ca ad o cJ σ g) sz) U ∧ va_Nc (jE 2) (jE 1) U) sz [.ref (ad 0), .int x1, .ref o]) (zQ D ca ad o cJ (va_A (lC ca ad o cJ σ g) sz) (zR ko) σo (zG ko vo g)) 1 6 (va_A (lC ca ad o cJ σ g) sz) := by
  refine va_MetW (cc := cZ_cut) (maxL := 4) (ret := some .int) (hh := [(0, 9, 12, 13), (0, 9, 15, 15)]) (by decide) rfl ?_
  intro p e s m args below meth c s₁ B hml hv
  obtain ⟨rfl, hsz, hP, hK, hD0, hNA, hNc⟩ := hv
  subst hsz
  have htab : c.exceptionTable.toList = [⟨0, 9, 12, 13⟩, ⟨0, 9, 15, 15⟩] := by
    obtain ⟨m9, meth9, c9, g1, g2, g3, -, -, g6, -⟩ := Cond.codeWith_spec (atoms_spec (ws := wsZ_cut) B.pre _ List.mem_cons_self)
    cases Option.some.inj (g1.symm.trans B.named)
    cases Option.some.inj (g2.symm.trans B.method)
    cases Option.some.inj (g3.symm.trans (Stand.of_body B).code)
    have h7 := table_eq c.exceptionTable.toList
    rw [g6] at h7
    exact h7.symm
  have S : CallFix p m c cZ_cut 4 s _ jall RZ := ⟨B.exec, B.bytes, hml, findClass_of_methodNamed B.named, fun w h => atoms_spec (ws := wsZ_cut) B.pre w (List.mem_cons_of_mem _ h)⟩
  have hx := S.1
  have hb := S.2.1
  have hr := B.returns
  have hlk := B.notSynchronized
  have hw : jH D (lT ca cJ) (lC ca ad o cJ σ g) (va_A (lC ca ad o cJ σ g) s.heap.size) s.heap s.heap [] s := ⟨hP, hD0.self, va_S.rf, hK⟩
  have hA : ∀ q : Nat, s.heap.size ≤ q → va_A (lC ca ad o cJ σ g) s.heap.size q := fun q h => Or.inr h
  generalize va_A (lC ca ad o cJ σ g) s.heap.size = A at hw hA hNA ⊢
  have hwx : jH D (xT ca) (xC ca ad σ) A s.heap s.heap [] s := jH_left hw (lT_x ca cJ)
  have hl := lv_entry [.ref (ad 0), .int x1, .ref o] (n := 4) (Nat.le_of_ble_eq_true rfl)
  rw [lg_entry_eq]
  generalize (lg_sl [.ref (ad 0), .int x1, .ref o] ++ List.replicate (4 - (lg_sl [.ref (ad 0), .int x1, .ref o]).length) Slot.unset).toArray = ls at hl ⊢
  have hl : lv_has ls 4 [(0, .ref (ad 0)), (1, .int x1), (2, .ref o)] := hl
  refine lv_aload_n (pc := 0) hx hb dZ_cut_0 rfl (lv_at hl 2 rfl) ?_
  refine lv_iconst (pc := 1) (v := (0 : Int32)) hx hb dZ_cut_1 (by decide) ?_
  refine lv_aload_n (pc := 2) hx hb dZ_cut_2 rfl (lv_at hl 0 rfl) ?_
  refine lv_iload_n (pc := 3) hx hb dZ_cut_3 rfl (lv_at hl 1 rfl) ?_
  by_cases hz : ko = 0
  · subst hz
    refine j_calliF (pc := 4) (C := xC ca ad) (σ' := σo) (v := vo) hw hA (va_runV (As := [.int x1]) (rest := [.int 0, .ref o]) S (knH_cut l D ca ad _ σ x1 vo σo hf) (cwV 1 S.2.2.2.2 (jgV k_535 k_536 k_537 k_1 k_538) rfl rfl rfl (by decide +kernel) ⟨Nat.le_of_ble_eq_true rfl, Nat.le_of_ble_eq_true rfl⟩) (j_preV (As := [.int x1]) hwx xN_b (xN_to (s := s) (A := A) hNA hwx hA) rfl xg_0) rfl rfl hl.1 rfl (lv_room (Nat.le_of_ble_eq_true rfl)) dZ_cut_4 ⟨Nat.le_of_ble_eq_true rfl, Nat.le_of_ble_eq_true rfl⟩) (fun H locs hw => ?_)
    refine lv_i2l (pc := 7) (v := vo.toInt64) hx hb dZ_cut_7 rfl ?_
    refine va_last (pc := 8) hx hb hw.2.2.2 hw.1 hw.2.1 hw.2.2.1 30 24 (cA := cJ) (n := 1) (f := g) rfl rfl (i := (0 : Int32)) (x := vo.toInt64) vp00 dZ_cut_8 (fun H locs hP hD hS => ?_)
    have hw : jH D (lT ca cJ) (lC ca ad o cJ σo (vp_updL g 0 vo.toInt64)) A s.heap H locs s := ⟨hP, hD, hS, hw.2.2.2⟩
    refine lv_goto (pc := 9) (tgt := 18) hx hb dZ_cut_9 (by decide) ?_
    refine lv_iconst (pc := 18) (v := (0 : Int32)) hx hb dZ_cut_18 (by decide) ?_
    exact z_ret (pc := 19) S hw hr hlk (Nat.le_of_ble_eq_true rfl) (Nat.le_of_ble_eq_true rfl) dZ_cut_19
  · refine jx_callV (pc := 4) (As := [.int x1]) (rest := [.int 0, .ref o]) S (kxH_cut l hl9 D ca ad _ σ x1 ko vo σo hz hf) (cwV 1 S.2.2.2.2 (jgV k_535 k_536 k_537 k_1 k_538) rfl rfl rfl (by decide +kernel) ⟨Nat.le_of_ble_eq_true rfl, Nat.le_of_ble_eq_true rfl⟩) (j_preV (As := [.int x1]) hwx xN_b (xN_to (s := s) (A := A) hNA hwx hA) rfl xg_0) rfl hl.1 (Nat.le_of_ble_eq_true rfl) dZ_cut_4 ⟨Nat.le_of_ble_eq_true rfl, Nat.le_of_ble_eq_true rfl⟩ (fun q ce t L hce hcv hcl hal hB hL hz1 hk9 => ?_)
    have hf2 := j_free hwx hA
    have hS2 : va_S A s.heap t.heap ([] ++ L) := ⟨hz1, fun q h1 h2 => hk9 q h1 (fun z => h2 (hf2 q z)), fun z hz9 => hf2 _ (hL z (by simpa using hz9))⟩
    have hw2 : jH D (lT ca cJ) (lC ca ad o cJ σo g) A s.heap t.heap ([] ++ L) s := jH_frame hw hA hk9 hB.1 hB.2.2 hS2
    by_cases h1 : ko = 1
    · subst h1
      refine jx_catchA (own := RZ) (E := jE 1) (nx := jE 1) S.2.2.2.1 htab (by decide) (by decide) (S.2.2.2.2 _ k_272) (xN_w hNA b_280 _) hce hcv hcl ?_
      refine lv_astore_n (pc := 12) (lv' := [(3, .ref q), (0, .ref (ad 0)), (1, .int x1), (2, .ref o)]) hx hb dZ_cut_12 rfl hl (by decide) rfl (fun ls hl => ?_)
      refine lv_iconst (pc := 13) (v := (1 : Int32)) hx hb dZ_cut_13 (by decide) ?_
      exact z_ret (pc := 14) S hw2 hr hlk (Nat.le_of_ble_eq_true rfl) (Nat.le_of_ble_eq_true rfl) dZ_cut_14
    · rw [jE_2 h1] at hcl
      have e9 : zR ko = 2 := by unfold zR; rw [if_neg hz, if_neg h1]
      have e8 : zG ko vo g = g := if_neg hz
      rw [e9, e8]
      refine jx_catchB (own := RZ) (E := jE 2) (ny := jE 1) (nx := jE 2) S.2.2.2.1 htab (by decide) (by decide) (S.2.2.2.2 _ k_272) hNc (by decide) (by decide) (S.2.2.2.2 _ k_273) (xN_w hNA b_342 _) hce hcv hcl ?_
      refine lv_astore_n (pc := 15) (lv' := [(3, .ref q), (0, .ref (ad 0)), (1, .int x1), (2, .ref o)]) hx hb dZ_cut_15 rfl hl (by decide) rfl (fun ls hl => ?_)
      refine lv_iconst (pc := 16) (v := (2 : Int32)) hx hb dZ_cut_16 (by decide) ?_
      exact z_ret (pc := 17) S hw2 hr hlk (Nat.le_of_ble_eq_true rfl) (Nat.le_of_ble_eq_true rfl) dZ_cut_17
def rmZ_start : Room := { frames := 7, cells := 1, slots := 6, locals := 134 }
def wsZ_start : List Cond := .codeWith yZ_start cZ_start 3 (some .int) [(0, 8, 11, 15)] :: jall
set_option maxHeartbeats 4000000 in
set_option maxRecDepth 100000 in
theorem kZ_start (l : Launch) (hl9 : l.stackTraces = false) (D : va_G) (ca : Nat → ClassId) (ad : Nat → Nat) (o : Nat) (cJ : ClassId) (sz : Nat) (σ : JS) (g : Nat → Int64)  (ko : Nat) (vo : Int32) (σo : JS) (hk1 : ¬ ko = 1) (hf : mH_start σ  = some (ko, vo, σo)) : Met l yZ_start wsZ_start rmZ_start (jPre D (lT ca cJ) (lC ca ad o cJ σ g) (fun U => xN (va_A (lC ca ad o cJ σ g) sz) U ∧ va_Nc (jE 2) (jE 1) U) sz [.ref (ad 0), .ref o]) (zQ D ca ad o cJ (va_A (lC ca ad o cJ σ g) sz) (zR1 ko) σo (zG ko vo g)) 1 6 (va_A (lC ca ad o cJ σ g) sz) := by
  refine va_MetW (cc := cZ_start) (maxL := 3) (ret := some .int) (hh := [(0, 8, 11, 15)]) (by decide) rfl ?_
  intro p e s m args below meth c s₁ B hml hv
  obtain ⟨rfl, hsz, hP, hK, hD0, hNA, hNc⟩ := hv
  subst hsz
  have htab : c.exceptionTable.toList = [⟨0, 8, 11, 15⟩] := by
    obtain ⟨m9, meth9, c9, g1, g2, g3, -, -, g6, -⟩ := Cond.codeWith_spec (atoms_spec (ws := wsZ_start) B.pre _ List.mem_cons_self)
    cases Option.some.inj (g1.symm.trans B.named)
    cases Option.some.inj (g2.symm.trans B.method)
    cases Option.some.inj (g3.symm.trans (Stand.of_body B).code)
    have h7 := table_eq c.exceptionTable.toList
    rw [g6] at h7
    exact h7.symm
  have S : CallFix p m c cZ_start 3 s _ jall RZ := ⟨B.exec, B.bytes, hml, findClass_of_methodNamed B.named, fun w h => atoms_spec (ws := wsZ_start) B.pre w (List.mem_cons_of_mem _ h)⟩
  have hx := S.1
  have hb := S.2.1
  have hr := B.returns
  have hlk := B.notSynchronized
  have hw : jH D (lT ca cJ) (lC ca ad o cJ σ g) (va_A (lC ca ad o cJ σ g) s.heap.size) s.heap s.heap [] s := ⟨hP, hD0.self, va_S.rf, hK⟩
  have hA : ∀ q : Nat, s.heap.size ≤ q → va_A (lC ca ad o cJ σ g) s.heap.size q := fun q h => Or.inr h
  generalize va_A (lC ca ad o cJ σ g) s.heap.size = A at hw hA hNA ⊢
  have hwx : jH D (xT ca) (xC ca ad σ) A s.heap s.heap [] s := jH_left hw (lT_x ca cJ)
  have hl := lv_entry [.ref (ad 0), .ref o] (n := 3) (Nat.le_of_ble_eq_true rfl)
  rw [lg_entry_eq]
  generalize (lg_sl [.ref (ad 0), .ref o] ++ List.replicate (3 - (lg_sl [.ref (ad 0), .ref o]).length) Slot.unset).toArray = ls at hl ⊢
  have hl : lv_has ls 3 [(0, .ref (ad 0)), (1, .ref o)] := hl
  refine lv_aload_n (pc := 0) hx hb dZ_start_0 rfl (lv_at hl 1 rfl) ?_
  refine lv_iconst (pc := 1) (v := (0 : Int32)) hx hb dZ_start_1 (by decide) ?_
  refine lv_aload_n (pc := 2) hx hb dZ_start_2 rfl (lv_at hl 0 rfl) ?_
  by_cases hz : ko = 0
  · subst hz
    refine j_calliF (pc := 3) (C := xC ca ad) (σ' := σo) (v := vo) hw hA (va_runV (As := []) (rest := [.int 0, .ref o]) S (knH_start l D ca ad _ σ  vo σo hf) (cwV 0 S.2.2.2.2 (jgV k_546 k_547 k_548 k_1 k_549) rfl rfl rfl (by decide +kernel) ⟨Nat.le_of_ble_eq_true rfl, Nat.le_of_ble_eq_true rfl⟩) (j_preV (As := []) hwx xN_b (xN_to (s := s) (A := A) hNA hwx hA) rfl xg_0) rfl rfl hl.1 rfl (lv_room (Nat.le_of_ble_eq_true rfl)) dZ_start_3 ⟨Nat.le_of_ble_eq_true rfl, Nat.le_of_ble_eq_true rfl⟩) (fun H locs hw => ?_)
    refine lv_i2l (pc := 6) (v := vo.toInt64) hx hb dZ_start_6 rfl ?_
    refine va_last (pc := 7) hx hb hw.2.2.2 hw.1 hw.2.1 hw.2.2.1 30 24 (cA := cJ) (n := 1) (f := g) rfl rfl (i := (0 : Int32)) (x := vo.toInt64) vp00 dZ_start_7 (fun H locs hP hD hS => ?_)
    have hw : jH D (lT ca cJ) (lC ca ad o cJ σo (vp_updL g 0 vo.toInt64)) A s.heap H locs s := ⟨hP, hD, hS, hw.2.2.2⟩
    refine lv_goto (pc := 8) (tgt := 14) hx hb dZ_start_8 (by decide) ?_
    refine lv_iconst (pc := 14) (v := (0 : Int32)) hx hb dZ_start_14 (by decide) ?_
    exact z_ret (pc := 15) S hw hr hlk (Nat.le_of_ble_eq_true rfl) (Nat.le_of_ble_eq_true rfl) dZ_start_15
  · refine jx_callV (pc := 3) (As := []) (rest := [.int 0, .ref o]) S (kxH_start l hl9 D ca ad _ σ  ko vo σo hz hf) (cwV 0 S.2.2.2.2 (jgV k_546 k_547 k_548 k_1 k_549) rfl rfl rfl (by decide +kernel) ⟨Nat.le_of_ble_eq_true rfl, Nat.le_of_ble_eq_true rfl⟩) (j_preV (As := []) hwx xN_b (xN_to (s := s) (A := A) hNA hwx hA) rfl xg_0) rfl hl.1 (Nat.le_of_ble_eq_true rfl) dZ_start_3 ⟨Nat.le_of_ble_eq_true rfl, Nat.le_of_ble_eq_true rfl⟩ (fun q ce t L hce hcv hcl hal hB hL hz1 hk9 => ?_)
    have hf2 := j_free hwx hA
    have hS2 : va_S A s.heap t.heap ([] ++ L) := ⟨hz1, fun q h1 h2 => hk9 q h1 (fun z => h2 (hf2 q z)), fun z hz9 => hf2 _ (hL z (by simpa using hz9))⟩
    have hw2 : jH D (lT ca cJ) (lC ca ad o cJ σo g) A s.heap t.heap ([] ++ L) s := jH_frame hw hA hk9 hB.1 hB.2.2 hS2
    rw [jE_2 hk1] at hcl
    have e9 : zR1 ko = 1 := if_neg hz
    have e8 : zG ko vo g = g := if_neg hz
    rw [e9, e8]
    refine jx_catchA (own := RZ) (E := jE 2) (nx := jE 2) S.2.2.2.1 htab (by decide) (by decide) (S.2.2.2.2 _ k_273) (xN_w hNA b_342 _) hce hcv hcl ?_
    refine lv_astore_n (pc := 11) (lv' := [(2, .ref q), (0, .ref (ad 0)), (1, .ref o)]) hx hb dZ_start_11 rfl hl (by decide) rfl (fun ls hl => ?_)
    refine lv_iconst (pc := 12) (v := (1 : Int32)) hx hb dZ_start_12 (by decide) ?_
    exact z_ret (pc := 13) S hw2 hr hlk (Nat.le_of_ble_eq_true rfl) (Nat.le_of_ble_eq_true rfl) dZ_start_13
def rmZ_link : Room := { frames := 7, cells := 1, slots := 6, locals := 111 }
def wsZ_link : List Cond := .codeWith yZ_link cZ_link 5 (some .int) [(0, 10, 13, 13), (0, 10, 17, 15)] :: jall
set_option maxHeartbeats 4000000 in
set_option maxRecDepth 100000 in
theorem kZ_link (l : Launch) (hl9 : l.stackTraces = false) (D : va_G) (ca : Nat → ClassId) (ad : Nat → Nat) (o : Nat) (cJ : ClassId) (sz : Nat) (σ : JS) (g : Nat → Int64) (x1 : Int32) (x2 : Int32) (ko : Nat) (vo : Int32) (σo : JS) (hf : mH_link σ x1 x2 = some (ko, vo, σo)) : Met l yZ_link wsZ_link rmZ_link (jPre D (lT ca cJ) (lC ca ad o cJ σ g) (fun U => xN (va_A (lC ca ad o cJ σ g) sz) U ∧ va_Nc (jE 2) (jE 1) U) sz [.ref (ad 0), .int x1, .int x2, .ref o]) (zQ D ca ad o cJ (va_A (lC ca ad o cJ σ g) sz) (zR ko) σo (zG ko vo g)) 1 6 (va_A (lC ca ad o cJ σ g) sz) := by
  refine va_MetW (cc := cZ_link) (maxL := 5) (ret := some .int) (hh := [(0, 10, 13, 13), (0, 10, 17, 15)]) (by decide) rfl ?_
  intro p e s m args below meth c s₁ B hml hv
  obtain ⟨rfl, hsz, hP, hK, hD0, hNA, hNc⟩ := hv
  subst hsz
  have htab : c.exceptionTable.toList = [⟨0, 10, 13, 13⟩, ⟨0, 10, 17, 15⟩] := by
    obtain ⟨m9, meth9, c9, g1, g2, g3, -, -, g6, -⟩ := Cond.codeWith_spec (atoms_spec (ws := wsZ_link) B.pre _ List.mem_cons_self)
    cases Option.some.inj (g1.symm.trans B.named)
    cases Option.some.inj (g2.symm.trans B.method)
    cases Option.some.inj (g3.symm.trans (Stand.of_body B).code)
    have h7 := table_eq c.exceptionTable.toList
    rw [g6] at h7
    exact h7.symm
  have S : CallFix p m c cZ_link 5 s _ jall RZ := ⟨B.exec, B.bytes, hml, findClass_of_methodNamed B.named, fun w h => atoms_spec (ws := wsZ_link) B.pre w (List.mem_cons_of_mem _ h)⟩
  have hx := S.1
  have hb := S.2.1
  have hr := B.returns
  have hlk := B.notSynchronized
  have hw : jH D (lT ca cJ) (lC ca ad o cJ σ g) (va_A (lC ca ad o cJ σ g) s.heap.size) s.heap s.heap [] s := ⟨hP, hD0.self, va_S.rf, hK⟩
  have hA : ∀ q : Nat, s.heap.size ≤ q → va_A (lC ca ad o cJ σ g) s.heap.size q := fun q h => Or.inr h
  generalize va_A (lC ca ad o cJ σ g) s.heap.size = A at hw hA hNA ⊢
  have hwx : jH D (xT ca) (xC ca ad σ) A s.heap s.heap [] s := jH_left hw (lT_x ca cJ)
  have hl := lv_entry [.ref (ad 0), .int x1, .int x2, .ref o] (n := 5) (Nat.le_of_ble_eq_true rfl)
  rw [lg_entry_eq]
  generalize (lg_sl [.ref (ad 0), .int x1, .int x2, .ref o] ++ List.replicate (5 - (lg_sl [.ref (ad 0), .int x1, .int x2, .ref o]).length) Slot.unset).toArray = ls at hl ⊢
  have hl : lv_has ls 5 [(0, .ref (ad 0)), (1, .int x1), (2, .int x2), (3, .ref o)] := hl
  refine lv_aload_n (pc := 0) hx hb dZ_link_0 rfl (lv_at hl 3 rfl) ?_
  refine lv_iconst (pc := 1) (v := (0 : Int32)) hx hb dZ_link_1 (by decide) ?_
  refine lv_aload_n (pc := 2) hx hb dZ_link_2 rfl (lv_at hl 0 rfl) ?_
  refine lv_iload_n (pc := 3) hx hb dZ_link_3 rfl (lv_at hl 1 rfl) ?_
  refine lv_iload_n (pc := 4) hx hb dZ_link_4 rfl (lv_at hl 2 rfl) ?_
  by_cases hz : ko = 0
  · subst hz
    refine j_calliF (pc := 5) (C := xC ca ad) (σ' := σo) (v := vo) hw hA (va_runV (As := [.int x1, .int x2]) (rest := [.int 0, .ref o]) S (knH_link l D ca ad _ σ x1 x2 vo σo hf) (cwV 2 S.2.2.2.2 (jgV k_562 k_563 k_564 k_1 k_565) rfl rfl rfl (by decide +kernel) ⟨Nat.le_of_ble_eq_true rfl, Nat.le_of_ble_eq_true rfl⟩) (j_preV (As := [.int x1, .int x2]) hwx xN_b (xN_to (s := s) (A := A) hNA hwx hA) rfl xg_0) rfl rfl hl.1 rfl (lv_room (Nat.le_of_ble_eq_true rfl)) dZ_link_5 ⟨Nat.le_of_ble_eq_true rfl, Nat.le_of_ble_eq_true rfl⟩) (fun H locs hw => ?_)
    refine lv_i2l (pc := 8) (v := vo.toInt64) hx hb dZ_link_8 rfl ?_
    refine va_last (pc := 9) hx hb hw.2.2.2 hw.1 hw.2.1 hw.2.2.1 30 24 (cA := cJ) (n := 1) (f := g) rfl rfl (i := (0 : Int32)) (x := vo.toInt64) vp00 dZ_link_9 (fun H locs hP hD hS => ?_)
    have hw : jH D (lT ca cJ) (lC ca ad o cJ σo (vp_updL g 0 vo.toInt64)) A s.heap H locs s := ⟨hP, hD, hS, hw.2.2.2⟩
    refine lv_goto (pc := 10) (tgt := 21) hx hb dZ_link_10 (by decide) ?_
    refine lv_iconst (pc := 21) (v := (0 : Int32)) hx hb dZ_link_21 (by decide) ?_
    exact z_ret (pc := 22) S hw hr hlk (Nat.le_of_ble_eq_true rfl) (Nat.le_of_ble_eq_true rfl) dZ_link_22
  · refine jx_callV (pc := 5) (As := [.int x1, .int x2]) (rest := [.int 0, .ref o]) S (kxH_link l hl9 D ca ad _ σ x1 x2 ko vo σo hz hf) (cwV 2 S.2.2.2.2 (jgV k_562 k_563 k_564 k_1 k_565) rfl rfl rfl (by decide +kernel) ⟨Nat.le_of_ble_eq_true rfl, Nat.le_of_ble_eq_true rfl⟩) (j_preV (As := [.int x1, .int x2]) hwx xN_b (xN_to (s := s) (A := A) hNA hwx hA) rfl xg_0) rfl hl.1 (Nat.le_of_ble_eq_true rfl) dZ_link_5 ⟨Nat.le_of_ble_eq_true rfl, Nat.le_of_ble_eq_true rfl⟩ (fun q ce t L hce hcv hcl hal hB hL hz1 hk9 => ?_)
    have hf2 := j_free hwx hA
    have hS2 : va_S A s.heap t.heap ([] ++ L) := ⟨hz1, fun q h1 h2 => hk9 q h1 (fun z => h2 (hf2 q z)), fun z hz9 => hf2 _ (hL z (by simpa using hz9))⟩
    have hw2 : jH D (lT ca cJ) (lC ca ad o cJ σo g) A s.heap t.heap ([] ++ L) s := jH_frame hw hA hk9 hB.1 hB.2.2 hS2
    by_cases h1 : ko = 1
    · subst h1
      refine jx_catchA (own := RZ) (E := jE 1) (nx := jE 1) S.2.2.2.1 htab (by decide) (by decide) (S.2.2.2.2 _ k_272) (xN_w hNA b_280 _) hce hcv hcl ?_
      refine lv_astore (pc := 13) (lv' := [(4, .ref q), (0, .ref (ad 0)), (1, .int x1), (2, .int x2), (3, .ref o)]) hx hb dZ_link_13 hl (by decide) rfl (fun ls hl => ?_)
      refine lv_iconst (pc := 15) (v := (1 : Int32)) hx hb dZ_link_15 (by decide) ?_
      exact z_ret (pc := 16) S hw2 hr hlk (Nat.le_of_ble_eq_true rfl) (Nat.le_of_ble_eq_true rfl) dZ_link_16
    · rw [jE_2 h1] at hcl
      have e9 : zR ko = 2 := by unfold zR; rw [if_neg hz, if_neg h1]
      have e8 : zG ko vo g = g := if_neg hz
      rw [e9, e8]
      refine jx_catchB (own := RZ) (E := jE 2) (ny := jE 1) (nx := jE 2) S.2.2.2.1 htab (by decide) (by decide) (S.2.2.2.2 _ k_272) hNc (by decide) (by decide) (S.2.2.2.2 _ k_273) (xN_w hNA b_342 _) hce hcv hcl ?_
      refine lv_astore (pc := 17) (lv' := [(4, .ref q), (0, .ref (ad 0)), (1, .int x1), (2, .int x2), (3, .ref o)]) hx hb dZ_link_17 hl (by decide) rfl (fun ls hl => ?_)
      refine lv_iconst (pc := 19) (v := (2 : Int32)) hx hb dZ_link_19 (by decide) ?_
      exact z_ret (pc := 20) S hw2 hr hlk (Nat.le_of_ble_eq_true rfl) (Nat.le_of_ble_eq_true rfl) dZ_link_20
def rmZ_ack : Room := { frames := 7, cells := 1, slots := 6, locals := 108 }
def wsZ_ack : List Cond := .codeWith yZ_ack cZ_ack 3 (some .int) [(0, 8, 11, 15)] :: jall
set_option maxHeartbeats 4000000 in
set_option maxRecDepth 100000 in
theorem kZ_ack (l : Launch) (hl9 : l.stackTraces = false) (D : va_G) (ca : Nat → ClassId) (ad : Nat → Nat) (o : Nat) (cJ : ClassId) (sz : Nat) (σ : JS) (g : Nat → Int64)  (ko : Nat) (vo : Int32) (σo : JS) (hk1 : ¬ ko = 1) (hf : mH_ack σ  = some (ko, vo, σo)) : Met l yZ_ack wsZ_ack rmZ_ack (jPre D (lT ca cJ) (lC ca ad o cJ σ g) (fun U => xN (va_A (lC ca ad o cJ σ g) sz) U ∧ va_Nc (jE 2) (jE 1) U) sz [.ref (ad 0), .ref o]) (zQ D ca ad o cJ (va_A (lC ca ad o cJ σ g) sz) (zR1 ko) σo (zG ko vo g)) 1 6 (va_A (lC ca ad o cJ σ g) sz) := by
  refine va_MetW (cc := cZ_ack) (maxL := 3) (ret := some .int) (hh := [(0, 8, 11, 15)]) (by decide) rfl ?_
  intro p e s m args below meth c s₁ B hml hv
  obtain ⟨rfl, hsz, hP, hK, hD0, hNA, hNc⟩ := hv
  subst hsz
  have htab : c.exceptionTable.toList = [⟨0, 8, 11, 15⟩] := by
    obtain ⟨m9, meth9, c9, g1, g2, g3, -, -, g6, -⟩ := Cond.codeWith_spec (atoms_spec (ws := wsZ_ack) B.pre _ List.mem_cons_self)
    cases Option.some.inj (g1.symm.trans B.named)
    cases Option.some.inj (g2.symm.trans B.method)
    cases Option.some.inj (g3.symm.trans (Stand.of_body B).code)
    have h7 := table_eq c.exceptionTable.toList
    rw [g6] at h7
    exact h7.symm
  have S : CallFix p m c cZ_ack 3 s _ jall RZ := ⟨B.exec, B.bytes, hml, findClass_of_methodNamed B.named, fun w h => atoms_spec (ws := wsZ_ack) B.pre w (List.mem_cons_of_mem _ h)⟩
  have hx := S.1
  have hb := S.2.1
  have hr := B.returns
  have hlk := B.notSynchronized
  have hw : jH D (lT ca cJ) (lC ca ad o cJ σ g) (va_A (lC ca ad o cJ σ g) s.heap.size) s.heap s.heap [] s := ⟨hP, hD0.self, va_S.rf, hK⟩
  have hA : ∀ q : Nat, s.heap.size ≤ q → va_A (lC ca ad o cJ σ g) s.heap.size q := fun q h => Or.inr h
  generalize va_A (lC ca ad o cJ σ g) s.heap.size = A at hw hA hNA ⊢
  have hwx : jH D (xT ca) (xC ca ad σ) A s.heap s.heap [] s := jH_left hw (lT_x ca cJ)
  have hl := lv_entry [.ref (ad 0), .ref o] (n := 3) (Nat.le_of_ble_eq_true rfl)
  rw [lg_entry_eq]
  generalize (lg_sl [.ref (ad 0), .ref o] ++ List.replicate (3 - (lg_sl [.ref (ad 0), .ref o]).length) Slot.unset).toArray = ls at hl ⊢
  have hl : lv_has ls 3 [(0, .ref (ad 0)), (1, .ref o)] := hl
  refine lv_aload_n (pc := 0) hx hb dZ_ack_0 rfl (lv_at hl 1 rfl) ?_
  refine lv_iconst (pc := 1) (v := (0 : Int32)) hx hb dZ_ack_1 (by decide) ?_
  refine lv_aload_n (pc := 2) hx hb dZ_ack_2 rfl (lv_at hl 0 rfl) ?_
  by_cases hz : ko = 0
  · subst hz
    refine j_calliF (pc := 3) (C := xC ca ad) (σ' := σo) (v := vo) hw hA (va_runV (As := []) (rest := [.int 0, .ref o]) S (knH_ack l D ca ad _ σ  vo σo hf) (cwV 0 S.2.2.2.2 (jgV k_586 k_587 k_588 k_1 k_589) rfl rfl rfl (by decide +kernel) ⟨Nat.le_of_ble_eq_true rfl, Nat.le_of_ble_eq_true rfl⟩) (j_preV (As := []) hwx xN_b (xN_to (s := s) (A := A) hNA hwx hA) rfl xg_0) rfl rfl hl.1 rfl (lv_room (Nat.le_of_ble_eq_true rfl)) dZ_ack_3 ⟨Nat.le_of_ble_eq_true rfl, Nat.le_of_ble_eq_true rfl⟩) (fun H locs hw => ?_)
    refine lv_i2l (pc := 6) (v := vo.toInt64) hx hb dZ_ack_6 rfl ?_
    refine va_last (pc := 7) hx hb hw.2.2.2 hw.1 hw.2.1 hw.2.2.1 30 24 (cA := cJ) (n := 1) (f := g) rfl rfl (i := (0 : Int32)) (x := vo.toInt64) vp00 dZ_ack_7 (fun H locs hP hD hS => ?_)
    have hw : jH D (lT ca cJ) (lC ca ad o cJ σo (vp_updL g 0 vo.toInt64)) A s.heap H locs s := ⟨hP, hD, hS, hw.2.2.2⟩
    refine lv_goto (pc := 8) (tgt := 14) hx hb dZ_ack_8 (by decide) ?_
    refine lv_iconst (pc := 14) (v := (0 : Int32)) hx hb dZ_ack_14 (by decide) ?_
    exact z_ret (pc := 15) S hw hr hlk (Nat.le_of_ble_eq_true rfl) (Nat.le_of_ble_eq_true rfl) dZ_ack_15
  · refine jx_callV (pc := 3) (As := []) (rest := [.int 0, .ref o]) S (kxH_ack l hl9 D ca ad _ σ  ko vo σo hz hf) (cwV 0 S.2.2.2.2 (jgV k_586 k_587 k_588 k_1 k_589) rfl rfl rfl (by decide +kernel) ⟨Nat.le_of_ble_eq_true rfl, Nat.le_of_ble_eq_true rfl⟩) (j_preV (As := []) hwx xN_b (xN_to (s := s) (A := A) hNA hwx hA) rfl xg_0) rfl hl.1 (Nat.le_of_ble_eq_true rfl) dZ_ack_3 ⟨Nat.le_of_ble_eq_true rfl, Nat.le_of_ble_eq_true rfl⟩ (fun q ce t L hce hcv hcl hal hB hL hz1 hk9 => ?_)
    have hf2 := j_free hwx hA
    have hS2 : va_S A s.heap t.heap ([] ++ L) := ⟨hz1, fun q h1 h2 => hk9 q h1 (fun z => h2 (hf2 q z)), fun z hz9 => hf2 _ (hL z (by simpa using hz9))⟩
    have hw2 : jH D (lT ca cJ) (lC ca ad o cJ σo g) A s.heap t.heap ([] ++ L) s := jH_frame hw hA hk9 hB.1 hB.2.2 hS2
    rw [jE_2 hk1] at hcl
    have e9 : zR1 ko = 1 := if_neg hz
    have e8 : zG ko vo g = g := if_neg hz
    rw [e9, e8]
    refine jx_catchA (own := RZ) (E := jE 2) (nx := jE 2) S.2.2.2.1 htab (by decide) (by decide) (S.2.2.2.2 _ k_273) (xN_w hNA b_342 _) hce hcv hcl ?_
    refine lv_astore_n (pc := 11) (lv' := [(2, .ref q), (0, .ref (ad 0)), (1, .ref o)]) hx hb dZ_ack_11 rfl hl (by decide) rfl (fun ls hl => ?_)
    refine lv_iconst (pc := 12) (v := (1 : Int32)) hx hb dZ_ack_12 (by decide) ?_
    exact z_ret (pc := 13) S hw2 hr hlk (Nat.le_of_ble_eq_true rfl) (Nat.le_of_ble_eq_true rfl) dZ_ack_13
