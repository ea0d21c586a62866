def rmM_thrown : Room := { frames := 0, cells := 0, slots := 0, locals := 0 }
def mM_thrown (σ : JS)  : Option (Int32) :=
  some (σ 100 0)
set_option maxHeartbeats 4000000 in
set_option maxRecDepth 100000 in
theorem bM_thrown {p : Program} {l : Launch} {e : Env} {s : State} {m : MethodId} {args : Array Value} {below : List Frame} {meth : Method} {c : Code} {D : va_G} {ca : Nat → ClassId} {ad : Nat → Nat} {A : Nat → Prop} (hA : ∀ q, s.heap.size ≤ q → A q) (S : CallFix p m c cM_thrown 1 s args jall RM) (hN : mN A s) (hr : meth.sig.returnType = some .int) (hlk : meth.locks = false) (out : Int32) (σ : JS)  (ls : Array Slot) (hl : lv_has ls 1 [(0, .ref (ad 0))]) (hw : jH D (mT ca) (mC ca ad σ) A s.heap s.heap [] s) (hf : mM_thrown σ  = some out) : W p l e (headSpec wsM_thrown rmM_thrown).room s m args below meth c s.heap [] 0 0 (MQ below (jSi out) args s 0 0 (fun _ => False)) (F0 m 0 ls []) := by
  have hx := S.1
  have hb := S.2.1
  unfold mM_thrown at hf
  refine lv_aload_n (pc := 0) hx hb dM_thrown_0 rfl (lv_at hl 0 rfl) ?_
  refine j_get (pc := 1) (v := .int (σ 100 0)) S hw inM 0 6 0 mg_0 rfl (by decide) k_596 rfl dM_thrown_1 ?_
  obtain rfl := jsm hf
  exact j_ipr (pc := 4) S hr hlk dM_thrown_4
set_option maxHeartbeats 4000000 in
set_option maxRecDepth 100000 in
theorem kM_thrown (l : Launch) (D : va_G) (ca : Nat → ClassId) (ad : Nat → Nat) (sz : Nat) (σ : JS)  (out : Int32) (hf : mM_thrown σ  = some out) : Met l yM_thrown wsM_thrown rmM_thrown (jPre D (mT ca) (mC ca ad σ) (mN (va_A (mC ca ad σ) sz)) sz [.ref (ad 0)]) (jSi out) 0 0 (fun _ => False) := by
  refine Met.ofW (cc := cM_thrown) (maxL := 1) (ret := some .int) (by decide) rfl ?_
  intro p e s m args below meth c s₁ B hml hv
  obtain ⟨rfl, hsz, hP, hK, hD0, hN⟩ := hv
  subst hsz
  have hl := lv_entry [.ref (ad 0)] (n := 1) (Nat.le_of_ble_eq_true rfl)
  rw [lg_entry_eq]
  generalize (lg_sl [.ref (ad 0)] ++ List.replicate (1 - (lg_sl [.ref (ad 0)]).length) Slot.unset).toArray = ls at hl ⊢
  exact bM_thrown (fun q h => Or.inr h) ⟨B.exec, B.bytes, hml, findClass_of_methodNamed B.named, fun w h => atoms_spec (ws := wsM_thrown) B.pre w (List.mem_cons_of_mem _ h)⟩ hN B.returns B.notSynchronized out σ  ls hl ⟨hP, hD0.self, va_S.rf, hK⟩ hf

def rmM_refuse : Room := { frames := 0, cells := 0, slots := 0, locals := 0 }
def mM_refuse (σ : JS) (x1 : Int32) : Option (Int32 × JS) :=
  jst (jw2 σ 100 0 x1) fun σ1 =>
  some ((0 : Int32), σ1)
set_option maxHeartbeats 4000000 in
set_option maxRecDepth 100000 in
theorem bM_refuse {p : Program} {l : Launch} {e : Env} {s : State} {m : MethodId} {args : Array Value} {below : List Frame} {meth : Method} {c : Code} {D : va_G} {ca : Nat → ClassId} {ad : Nat → Nat} {A : Nat → Prop} (hA : ∀ q, s.heap.size ≤ q → A q) (S : CallFix p m c cM_refuse 2 s args jall RM) (hN : mN A s) (hr : meth.sig.returnType = some .int) (hlk : meth.locks = false) (out : Int32 × JS) (σ : JS) (x1 : Int32) (ls : Array Slot) (hl : lv_has ls 2 [(0, .ref (ad 0)), (1, .int x1)]) (hw : jH D (mT ca) (mC ca ad σ) A s.heap s.heap [] s) (hf : mM_refuse σ x1 = some out) : W p l e (headSpec wsM_refuse rmM_refuse).room s m args below meth c s.heap [] 0 0 (MQ below (jQi D (mT ca) (mC ca ad) A out.1 out.2) args s 0 0 A) (F0 m 0 ls []) := by
  have hx := S.1
  have hb := S.2.1
  unfold mM_refuse at hf
  refine lv_aload_n (pc := 0) hx hb dM_refuse_0 rfl (lv_at hl 0 rfl) ?_
  refine lv_iload_n (pc := 1) hx hb dM_refuse_1 rfl (lv_at hl 1 rfl) ?_
  have hg := jst_e hf; clear hf; obtain ⟨σ1, e2, hf⟩ := hg
  refine j_put (pc := 2) (v := .int x1) (ws' := mC ca ad σ1) S hw inM tyM tyM_ok nmM 0 6 0 mg_0 rfl (by decide) k_596 rfl rfl rfl (Nat.le_of_ble_eq_true rfl) (by rw [e2]; exact mp_0) dM_refuse_2 (fun H locs hw => ?_)
  refine lv_iconst (pc := 5) (v := (0 : Int32)) hx hb dM_refuse_5 (by decide) ?_
  obtain rfl := jsm hf
  exact j_iret (pc := 6) S hw hr hlk dM_refuse_6
set_option maxHeartbeats 4000000 in
set_option maxRecDepth 100000 in
theorem kM_refuse (l : Launch) (D : va_G) (ca : Nat → ClassId) (ad : Nat → Nat) (sz : Nat) (σ : JS) (x1 : Int32) (out : Int32 × JS) (hf : mM_refuse σ x1 = some out) : Met l yM_refuse wsM_refuse rmM_refuse (jPre D (mT ca) (mC ca ad σ) (mN (va_A (mC ca ad σ) sz)) sz [.ref (ad 0), .int x1]) (jQi D (mT ca) (mC ca ad) (va_A (mC ca ad σ) sz) out.1 out.2) 0 0 (va_A (mC ca ad σ) sz) := by
  refine Met.ofW (cc := cM_refuse) (maxL := 2) (ret := some .int) (by decide) rfl ?_
  intro p e s m args below meth c s₁ B hml hv
  obtain ⟨rfl, hsz, hP, hK, hD0, hN⟩ := hv
  subst hsz
  have hl := lv_entry [.ref (ad 0), .int x1] (n := 2) (Nat.le_of_ble_eq_true rfl)
  rw [lg_entry_eq]
  generalize (lg_sl [.ref (ad 0), .int x1] ++ List.replicate (2 - (lg_sl [.ref (ad 0), .int x1]).length) Slot.unset).toArray = ls at hl ⊢
  exact bM_refuse (fun q h => Or.inr h) ⟨B.exec, B.bytes, hml, findClass_of_methodNamed B.named, fun w h => atoms_spec (ws := wsM_refuse) B.pre w (List.mem_cons_of_mem _ h)⟩ hN B.returns B.notSynchronized out σ x1 ls hl ⟨hP, hD0.self, va_S.rf, hK⟩ hf

def rmM_within : Room := { frames := 0, cells := 0, slots := 0, locals := 0 }
def mM_within (σ : JS) (x0 : Int32) (x1 : Int32) (x2 : Int32) : Option (Int32) :=
  if x0 < x1 then
  (some (0 : Int32))
  else
  (if x2 < x0 then
  (some (0 : Int32))
  else
  (some (1 : Int32)))
set_option maxHeartbeats 4000000 in
set_option maxRecDepth 100000 in
theorem bM_within {p : Program} {l : Launch} {e : Env} {s : State} {m : MethodId} {args : Array Value} {below : List Frame} {meth : Method} {c : Code} {D : va_G} {ca : Nat → ClassId} {ad : Nat → Nat} {A : Nat → Prop} (hA : ∀ q, s.heap.size ≤ q → A q) (S : CallFix p m c cM_within 3 s args jall RM) (hN : mN A s) (hr : meth.sig.returnType = some .boolean) (hlk : meth.locks = false) (out : Int32) (σ : JS) (x0 : Int32) (x1 : Int32) (x2 : Int32) (ls : Array Slot) (hl : lv_has ls 3 [(0, .int x0), (1, .int x1), (2, .int x2)]) (hw : jH D (mT ca) (mC ca ad σ) A s.heap s.heap [] s) (hf : mM_within σ x0 x1 x2 = some out) : W p l e (headSpec wsM_within rmM_within).room s m args below meth c s.heap [] 0 0 (MQ below (jSi out) args s 0 0 (fun _ => False)) (F0 m 0 ls []) := by
  have hx := S.1
  have hb := S.2.1
  unfold mM_within at hf
  refine lv_iload_n (pc := 0) hx hb dM_within_0 rfl (lv_at hl 0 rfl) ?_
  refine lv_iload_n (pc := 1) hx hb dM_within_1 rfl (lv_at hl 1 rfl) ?_
  refine lv_icmp_lt (pc := 2) (tgt := 14) hx hb dM_within_2 (by decide) (fun hc => ?_) (fun hc => ?_)
  · replace hf := jit hf hc
    refine lv_iconst (pc := 14) (v := (0 : Int32)) hx hb dM_within_14 (by decide) ?_
    obtain rfl := jsm hf
    exact j_zpr (pc := 15) S hr hlk (Or.inl rfl) dM_within_15
  · replace hf := jif hf hc
    refine lv_iload_n (pc := 5) hx hb dM_within_5 rfl (lv_at hl 0 rfl) ?_
    refine lv_iload_n (pc := 6) hx hb dM_within_6 rfl (lv_at hl 2 rfl) ?_
    refine lv_icmp_gt (pc := 7) (tgt := 14) hx hb dM_within_7 (by decide) (fun hc => ?_) (fun hc => ?_)
    · replace hf := jit hf hc
      refine lv_iconst (pc := 14) (v := (0 : Int32)) hx hb dM_within_14 (by decide) ?_
      obtain rfl := jsm hf
      exact j_zpr (pc := 15) S hr hlk (Or.inl rfl) dM_within_15
    · replace hf := jif hf hc
      refine lv_iconst (pc := 10) (v := (1 : Int32)) hx hb dM_within_10 (by decide) ?_
      refine lv_goto (pc := 11) (tgt := 15) hx hb dM_within_11 (by decide) ?_
      obtain rfl := jsm hf
      exact j_zpr (pc := 15) S hr hlk (Or.inr rfl) dM_within_15
set_option maxHeartbeats 4000000 in
set_option maxRecDepth 100000 in
theorem kM_within (l : Launch) (D : va_G) (ca : Nat → ClassId) (ad : Nat → Nat) (sz : Nat) (σ : JS) (x0 : Int32) (x1 : Int32) (x2 : Int32) (out : Int32) (hf : mM_within σ x0 x1 x2 = some out) : Met l yM_within wsM_within rmM_within (jPre D (mT ca) (mC ca ad σ) (mN (va_A (mC ca ad σ) sz)) sz [.int x0, .int x1, .int x2]) (jSi out) 0 0 (fun _ => False) := by
  refine Met.ofW (cc := cM_within) (maxL := 3) (ret := some .boolean) (by decide) rfl ?_
  intro p e s m args below meth c s₁ B hml hv
  obtain ⟨rfl, hsz, hP, hK, hD0, hN⟩ := hv
  subst hsz
  have hl := lv_entry [.int x0, .int x1, .int x2] (n := 3) (Nat.le_of_ble_eq_true rfl)
  rw [lg_entry_eq]
  generalize (lg_sl [.int x0, .int x1, .int x2] ++ List.replicate (3 - (lg_sl [.int x0, .int x1, .int x2]).length) Slot.unset).toArray = ls at hl ⊢
  exact bM_within (fun q h => Or.inr h) ⟨B.exec, B.bytes, hml, findClass_of_methodNamed B.named, fun w h => atoms_spec (ws := wsM_within) B.pre w (List.mem_cons_of_mem _ h)⟩ hN B.returns B.notSynchronized out σ x0 x1 x2 ls hl ⟨hP, hD0.self, va_S.rf, hK⟩ hf

def rmM_isFile : Room := { frames := 1, cells := 0, slots := 0, locals := 22 }
def mM_isFile (σ : JS) (x1 : Int32) : Option (Int32) :=
  jbn (mM_within σ x1 (0 : Int32) ((σ 100 1) - (1 : Int32))) fun q1 =>
  jzc q1 (some q1)
set_option maxHeartbeats 4000000 in
set_option maxRecDepth 100000 in
theorem bM_isFile {p : Program} {l : Launch} {e : Env} {s : State} {m : MethodId} {args : Array Value} {below : List Frame} {meth : Method} {c : Code} {D : va_G} {ca : Nat → ClassId} {ad : Nat → Nat} {A : Nat → Prop} (hA : ∀ q, s.heap.size ≤ q → A q) (S : CallFix p m c cM_isFile 2 s args jall RM) (hN : mN A s) (hr : meth.sig.returnType = some .boolean) (hlk : meth.locks = false) (out : Int32) (σ : JS) (x1 : Int32) (ls : Array Slot) (hl : lv_has ls 2 [(0, .ref (ad 0)), (1, .int x1)]) (hw : jH D (mT ca) (mC ca ad σ) A s.heap s.heap [] s) (hf : mM_isFile σ x1 = some out) : W p l e (headSpec wsM_isFile rmM_isFile).room s m args below meth c s.heap [] 0 0 (MQ below (jSi out) args s 0 0 (fun _ => False)) (F0 m 0 ls []) := by
  have hx := S.1
  have hb := S.2.1
  unfold mM_isFile at hf
  refine lv_iload_n (pc := 0) hx hb dM_isFile_0 rfl (lv_at hl 1 rfl) ?_
  refine lv_iconst (pc := 1) (v := (0 : Int32)) hx hb dM_isFile_1 (by decide) ?_
  refine lv_aload_n (pc := 2) hx hb dM_isFile_2 rfl (lv_at hl 0 rfl) ?_
  refine j_get (pc := 3) (v := .int (σ 100 1)) S hw inM 0 6 1 mg_0 rfl (by decide) k_597 rfl dM_isFile_3 ?_
  refine lv_iconst (pc := 6) (v := (1 : Int32)) hx hb dM_isFile_6 (by decide) ?_
  refine lv_isub (pc := 7) hx hb dM_isFile_7 ?_
  have hg := jbn_e hf; clear hf; obtain ⟨q1, h2, hf⟩ := hg
  refine j_cpi (pc := 8) (v := q1) (va_runS (As := [.int x1, .int (0 : Int32), .int ((σ 100 1) - (1 : Int32))]) (rest := []) S (kM_within l D ca ad _ σ x1 (0 : Int32) ((σ 100 1) - (1 : Int32)) q1 h2) (cwS 3 S.2.2.2.2 (jgS k_680 k_681 k_7 k_682) rfl rfl rfl (by decide +kernel) ⟨Nat.le_of_ble_eq_true rfl, Nat.le_of_ble_eq_true rfl⟩) (j_preS hw mN_b (mN_to hN hw hA)) rfl rfl hl.1 rfl (lv_room (Nat.le_of_ble_eq_true rfl)) dM_isFile_8 ⟨Nat.le_of_ble_eq_true rfl, Nat.le_of_ble_eq_true rfl⟩) ?_
  have hg := jzc_e hf; clear hf; obtain ⟨hz9, hf⟩ := hg
  obtain rfl := jsm hf
  exact j_zpr (pc := 11) S hr hlk hz9 dM_isFile_11
set_option maxHeartbeats 4000000 in
set_option maxRecDepth 100000 in
theorem kM_isFile (l : Launch) (D : va_G) (ca : Nat → ClassId) (ad : Nat → Nat) (sz : Nat) (σ : JS) (x1 : Int32) (out : Int32) (hf : mM_isFile σ x1 = some out) : Met l yM_isFile wsM_isFile rmM_isFile (jPre D (mT ca) (mC ca ad σ) (mN (va_A (mC ca ad σ) sz)) sz [.ref (ad 0), .int x1]) (jSi out) 0 0 (fun _ => False) := by
  refine Met.ofW (cc := cM_isFile) (maxL := 2) (ret := some .boolean) (by decide) rfl ?_
  intro p e s m args below meth c s₁ B hml hv
  obtain ⟨rfl, hsz, hP, hK, hD0, hN⟩ := hv
  subst hsz
  have hl := lv_entry [.ref (ad 0), .int x1] (n := 2) (Nat.le_of_ble_eq_true rfl)
  rw [lg_entry_eq]
  generalize (lg_sl [.ref (ad 0), .int x1] ++ List.replicate (2 - (lg_sl [.ref (ad 0), .int x1]).length) Slot.unset).toArray = ls at hl ⊢
  exact bM_isFile (fun q h => Or.inr h) ⟨B.exec, B.bytes, hml, findClass_of_methodNamed B.named, fun w h => atoms_spec (ws := wsM_isFile) B.pre w (List.mem_cons_of_mem _ h)⟩ hN B.returns B.notSynchronized out σ x1 ls hl ⟨hP, hD0.self, va_S.rf, hK⟩ hf

def rmM_isRecord : Room := { frames := 2, cells := 0, slots := 0, locals := 43 }
def mM_isRecord (σ : JS) (x1 : Int32) (x2 : Int32) : Option (Int32) :=
  jbn (mM_isFile σ x1) fun q1 =>
  if q1 = 0 then
  (some (0 : Int32))
  else
  (jrd σ 1 3 x1 fun v3 =>
  jbn (mM_within σ x2 (0 : Int32) (v3 - (1 : Int32))) fun q6 =>
  if q6 = 0 then
  (some (0 : Int32))
  else
  (some (1 : Int32)))
set_option maxHeartbeats 4000000 in
set_option maxRecDepth 100000 in
theorem bM_isRecord {p : Program} {l : Launch} {e : Env} {s : State} {m : MethodId} {args : Array Value} {below : List Frame} {meth : Method} {c : Code} {D : va_G} {ca : Nat → ClassId} {ad : Nat → Nat} {A : Nat → Prop} (hA : ∀ q, s.heap.size ≤ q → A q) (S : CallFix p m c cM_isRecord 3 s args jall RM) (hN : mN A s) (hr : meth.sig.returnType = some .boolean) (hlk : meth.locks = false) (out : Int32) (σ : JS) (x1 : Int32) (x2 : Int32) (ls : Array Slot) (hl : lv_has ls 3 [(0, .ref (ad 0)), (1, .int x1), (2, .int x2)]) (hw : jH D (mT ca) (mC ca ad σ) A s.heap s.heap [] s) (hf : mM_isRecord σ x1 x2 = some out) : W p l e (headSpec wsM_isRecord rmM_isRecord).room s m args below meth c s.heap [] 0 0 (MQ below (jSi out) args s 0 0 (fun _ => False)) (F0 m 0 ls []) := by
  have hx := S.1
  have hb := S.2.1
  unfold mM_isRecord at hf
  refine lv_aload_n (pc := 0) hx hb dM_isRecord_0 rfl (lv_at hl 0 rfl) ?_
  refine lv_iload_n (pc := 1) hx hb dM_isRecord_1 rfl (lv_at hl 1 rfl) ?_
  have hg := jbn_e hf; clear hf; obtain ⟨q1, h2, hf⟩ := hg
  refine j_cpi (pc := 2) (v := q1) (va_runV (As := [.int x1]) (rest := []) S (kM_isFile l D ca ad _ σ x1 q1 h2) (cwV 1 S.2.2.2.2 (jgV k_691 k_693 ks_17 k_7 k_694) rfl rfl rfl (by decide +kernel) ⟨Nat.le_of_ble_eq_true rfl, Nat.le_of_ble_eq_true rfl⟩) (j_preV (As := [.int x1]) hw mN_b (mN_to hN hw hA) rfl mg_0) rfl rfl hl.1 rfl (lv_room (Nat.le_of_ble_eq_true rfl)) dM_isRecord_2 ⟨Nat.le_of_ble_eq_true rfl, Nat.le_of_ble_eq_true rfl⟩) ?_
  refine lv_if_eq (pc := 5) (tgt := 28) hx hb dM_isRecord_5 (by decide) (fun hc => ?_) (fun hc => ?_)
  · replace hf := jit hf hc
    refine lv_iconst (pc := 28) (v := (0 : Int32)) hx hb dM_isRecord_28 (by decide) ?_
    obtain rfl := jsm hf
    exact j_zpr (pc := 29) S hr hlk (Or.inl rfl) dM_isRecord_29
  · replace hf := jif hf hc
    refine lv_iload_n (pc := 8) hx hb dM_isRecord_8 rfl (lv_at hl 2 rfl) ?_
    refine lv_iconst (pc := 9) (v := (0 : Int32)) hx hb dM_isRecord_9 (by decide) ?_
    refine lv_aload_n (pc := 10) hx hb dM_isRecord_10 rfl (lv_at hl 0 rfl) ?_
    refine j_get (pc := 11) (v := .ref (ad 1)) S hw inM 0 6 2 mg_0 rfl (by decide) k_598 rfl dM_isRecord_11 ?_
    refine lv_iload_n (pc := 14) hx hb dM_isRecord_14 rfl (lv_at hl 1 rfl) ?_
    have hg := jrd_e hf; clear hf; obtain ⟨h4, v3, e5, hf⟩ := hg
    refine j_iald (pc := 15) S hw 1 0 mg_1 mt_1 h4 e5 dM_isRecord_15 ?_
    refine lv_iconst (pc := 16) (v := (1 : Int32)) hx hb dM_isRecord_16 (by decide) ?_
    refine lv_isub (pc := 17) hx hb dM_isRecord_17 ?_
    have hg := jbn_e hf; clear hf; obtain ⟨q6, h7, hf⟩ := hg
    refine j_cpi (pc := 18) (v := q6) (va_runS (As := [.int x2, .int (0 : Int32), .int (v3 - (1 : Int32))]) (rest := []) S (kM_within l D ca ad _ σ x2 (0 : Int32) (v3 - (1 : Int32)) q6 h7) (cwS 3 S.2.2.2.2 (jgS k_680 k_681 k_7 k_682) rfl rfl rfl (by decide +kernel) ⟨Nat.le_of_ble_eq_true rfl, Nat.le_of_ble_eq_true rfl⟩) (j_preS hw mN_b (mN_to hN hw hA)) rfl rfl hl.1 rfl (lv_room (Nat.le_of_ble_eq_true rfl)) dM_isRecord_18 ⟨Nat.le_of_ble_eq_true rfl, Nat.le_of_ble_eq_true rfl⟩) ?_
    refine lv_if_eq (pc := 21) (tgt := 28) hx hb dM_isRecord_21 (by decide) (fun hc => ?_) (fun hc => ?_)
    · replace hf := jit hf hc
      refine lv_iconst (pc := 28) (v := (0 : Int32)) hx hb dM_isRecord_28 (by decide) ?_
      obtain rfl := jsm hf
      exact j_zpr (pc := 29) S hr hlk (Or.inl rfl) dM_isRecord_29
    · replace hf := jif hf hc
      refine lv_iconst (pc := 24) (v := (1 : Int32)) hx hb dM_isRecord_24 (by decide) ?_
      refine lv_goto (pc := 25) (tgt := 29) hx hb dM_isRecord_25 (by decide) ?_
      obtain rfl := jsm hf
      exact j_zpr (pc := 29) S hr hlk (Or.inr rfl) dM_isRecord_29
set_option maxHeartbeats 4000000 in
set_option maxRecDepth 100000 in
theorem kM_isRecord (l : Launch) (D : va_G) (ca : Nat → ClassId) (ad : Nat → Nat) (sz : Nat) (σ : JS) (x1 : Int32) (x2 : Int32) (out : Int32) (hf : mM_isRecord σ x1 x2 = some out) : Met l yM_isRecord wsM_isRecord rmM_isRecord (jPre D (mT ca) (mC ca ad σ) (mN (va_A (mC ca ad σ) sz)) sz [.ref (ad 0), .int x1, .int x2]) (jSi out) 0 0 (fun _ => False) := by
  refine Met.ofW (cc := cM_isRecord) (maxL := 3) (ret := some .boolean) (by decide) rfl ?_
  intro p e s m args below meth c s₁ B hml hv
  obtain ⟨rfl, hsz, hP, hK, hD0, hN⟩ := hv
  subst hsz
  have hl := lv_entry [.ref (ad 0), .int x1, .int x2] (n := 3) (Nat.le_of_ble_eq_true rfl)
  rw [lg_entry_eq]
  generalize (lg_sl [.ref (ad 0), .int x1, .int x2] ++ List.replicate (3 - (lg_sl [.ref (ad 0), .int x1, .int x2]).length) Slot.unset).toArray = ls at hl ⊢
  exact bM_isRecord (fun q h => Or.inr h) ⟨B.exec, B.bytes, hml, findClass_of_methodNamed B.named, fun w h => atoms_spec (ws := wsM_isRecord) B.pre w (List.mem_cons_of_mem _ h)⟩ hN B.returns B.notSynchronized out σ x1 x2 ls hl ⟨hP, hD0.self, va_S.rf, hK⟩ hf

def rmM_isKept : Room := { frames := 0, cells := 0, slots := 0, locals := 0 }
def mM_isKept (σ : JS) (x1 : Int32) : Option (Int32) :=
  if x1 ≤ ((8 : Int32) * (σ 100 3)) then
  (some (0 : Int32))
  else
  (if (σ 100 2) < x1 then
  (some (0 : Int32))
  else
  (some (1 : Int32)))
set_option maxHeartbeats 4000000 in
set_option maxRecDepth 100000 in
theorem bM_isKept {p : Program} {l : Launch} {e : Env} {s : State} {m : MethodId} {args : Array Value} {below : List Frame} {meth : Method} {c : Code} {D : va_G} {ca : Nat → ClassId} {ad : Nat → Nat} {A : Nat → Prop} (hA : ∀ q, s.heap.size ≤ q → A q) (S : CallFix p m c cM_isKept 2 s args jall RM) (hN : mN A s) (hr : meth.sig.returnType = some .boolean) (hlk : meth.locks = false) (out : Int32) (σ : JS) (x1 : Int32) (ls : Array Slot) (hl : lv_has ls 2 [(0, .ref (ad 0)), (1, .int x1)]) (hw : jH D (mT ca) (mC ca ad σ) A s.heap s.heap [] s) (hf : mM_isKept σ x1 = some out) : W p l e (headSpec wsM_isKept rmM_isKept).room s m args below meth c s.heap [] 0 0 (MQ below (jSi out) args s 0 0 (fun _ => False)) (F0 m 0 ls []) := by
  have hx := S.1
  have hb := S.2.1
  unfold mM_isKept at hf
  refine lv_iload_n (pc := 0) hx hb dM_isKept_0 rfl (lv_at hl 1 rfl) ?_
  refine lv_bipush (pc := 1) (v := (8 : Int32)) hx hb dM_isKept_1 (by decide) ?_
  refine lv_aload_n (pc := 3) hx hb dM_isKept_3 rfl (lv_at hl 0 rfl) ?_
  refine j_get (pc := 4) (v := .int (σ 100 3)) S hw inM 0 6 6 mg_0 rfl (by decide) k_602 rfl dM_isKept_4 ?_
  refine lv_imul (pc := 7) hx hb dM_isKept_7 ?_
  refine lv_icmp_le (pc := 8) (tgt := 23) hx hb dM_isKept_8 (by decide) (fun hc => ?_) (fun hc => ?_)
  · replace hf := jit hf hc
    refine lv_iconst (pc := 23) (v := (0 : Int32)) hx hb dM_isKept_23 (by decide) ?_
    obtain rfl := jsm hf
    exact j_zpr (pc := 24) S hr hlk (Or.inl rfl) dM_isKept_24
  · replace hf := jif hf hc
    refine lv_iload_n (pc := 11) hx hb dM_isKept_11 rfl (lv_at hl 1 rfl) ?_
    refine lv_aload_n (pc := 12) hx hb dM_isKept_12 rfl (lv_at hl 0 rfl) ?_
    refine j_get (pc := 13) (v := .int (σ 100 2)) S hw inM 0 6 5 mg_0 rfl (by decide) k_601 rfl dM_isKept_13 ?_
    refine lv_icmp_gt (pc := 16) (tgt := 23) hx hb dM_isKept_16 (by decide) (fun hc => ?_) (fun hc => ?_)
    · replace hf := jit hf hc
      refine lv_iconst (pc := 23) (v := (0 : Int32)) hx hb dM_isKept_23 (by decide) ?_
      obtain rfl := jsm hf
      exact j_zpr (pc := 24) S hr hlk (Or.inl rfl) dM_isKept_24
    · replace hf := jif hf hc
      refine lv_iconst (pc := 19) (v := (1 : Int32)) hx hb dM_isKept_19 (by decide) ?_
      refine lv_goto (pc := 20) (tgt := 24) hx hb dM_isKept_20 (by decide) ?_
      obtain rfl := jsm hf
      exact j_zpr (pc := 24) S hr hlk (Or.inr rfl) dM_isKept_24
set_option maxHeartbeats 4000000 in
set_option maxRecDepth 100000 in
theorem kM_isKept (l : Launch) (D : va_G) (ca : Nat → ClassId) (ad : Nat → Nat) (sz : Nat) (σ : JS) (x1 : Int32) (out : Int32) (hf : mM_isKept σ x1 = some out) : Met l yM_isKept wsM_isKept rmM_isKept (jPre D (mT ca) (mC ca ad σ) (mN (va_A (mC ca ad σ) sz)) sz [.ref (ad 0), .int x1]) (jSi out) 0 0 (fun _ => False) := by
  refine Met.ofW (cc := cM_isKept) (maxL := 2) (ret := some .boolean) (by decide) rfl ?_
  intro p e s m args below meth c s₁ B hml hv
  obtain ⟨rfl, hsz, hP, hK, hD0, hN⟩ := hv
  subst hsz
  have hl := lv_entry [.ref (ad 0), .int x1] (n := 2) (Nat.le_of_ble_eq_true rfl)
  rw [lg_entry_eq]
  generalize (lg_sl [.ref (ad 0), .int x1] ++ List.replicate (2 - (lg_sl [.ref (ad 0), .int x1]).length) Slot.unset).toArray = ls at hl ⊢
  exact bM_isKept (fun q h => Or.inr h) ⟨B.exec, B.bytes, hml, findClass_of_methodNamed B.named, fun w h => atoms_spec (ws := wsM_isKept) B.pre w (List.mem_cons_of_mem _ h)⟩ hN B.returns B.notSynchronized out σ x1 ls hl ⟨hP, hD0.self, va_S.rf, hK⟩ hf

def rmM_valueAt : Room := { frames := 0, cells := 0, slots := 0, locals := 0 }
def mM_valueAt_L3 (k : Int32 → Option (Int32)) (σ : JS) (x1 : Int32) (x2 : Int32) : Nat → Int32 → Option (Int32)
  | 0, _ => none
  | n + 1, x4 =>
    if x4 ≤ 0 then
    (k x4)
    else
    (jrd σ 4 121 x4 fun v1 =>
    if v1 = (1 : Int32) then
    (jrd σ 6 121 x4 fun v4 =>
    if v4 = x1 then
    (jrd σ 7 121 x4 fun v7 =>
    if v7 = x2 then
    (k x4)
    else
    (mM_valueAt_L3 k σ x1 x2 n (x4 + (-1))))
    else
    (mM_valueAt_L3 k σ x1 x2 n (x4 + (-1))))
    else
    (mM_valueAt_L3 k σ x1 x2 n (x4 + (-1))))
def mM_valueAt (σ : JS) (x1 : Int32) (x2 : Int32) (x3 : Int32) : Option (Int32) :=
  mM_valueAt_L3 (fun z10 =>
  if z10 ≤ 0 then
  (some (0 : Int32))
  else
  (jrd σ 9 121 z10 fun v11 =>
  some v11)) σ x1 x2 999 x3
set_option maxHeartbeats 4000000 in
set_option maxRecDepth 100000 in
theorem wmM_valueAt_L3 {p : Program} {l : Launch} {e : Env} {s : State} {m : MethodId} {args : Array Value} {below : List Frame} {meth : Method} {c : Code} {D : va_G} {ca : Nat → ClassId} {ad : Nat → Nat} {A : Nat → Prop} (hA : ∀ q, s.heap.size ≤ q → A q) (S : CallFix p m c cM_valueAt 5 s args jall RM) (hN : mN A s) (hr : meth.sig.returnType = some .int) (hlk : meth.locks = false) (out : Int32) (k : Int32 → Option (Int32)) (σ : JS) (x1 : Int32) (x2 : Int32) (hk : ∀ (x4 : Int32) (ls : Array Slot) , lv_has ls 5 [(0, .ref (ad 0)), (1, .int x1), (2, .int x2), (4, .int x4)] → jH D (mT ca) (mC ca ad σ) A s.heap s.heap [] s → k x4 = some out → W p l e (headSpec wsM_valueAt rmM_valueAt).room s m args below meth c s.heap [] 0 0 (MQ below (jSi out) args s 0 0 (fun _ => False)) (F0 m 47 ls [])) : ∀ (n : Nat) (x4 : Int32) (ls : Array Slot) , lv_has ls 5 [(0, .ref (ad 0)), (1, .int x1), (2, .int x2), (4, .int x4)] → jH D (mT ca) (mC ca ad σ) A s.heap s.heap [] s → mM_valueAt_L3 k σ x1 x2 n x4 = some out → W p l e (headSpec wsM_valueAt rmM_valueAt).room s m args below meth c s.heap [] 0 0 (MQ below (jSi out) args s 0 0 (fun _ => False)) (F0 m 3 ls []) := by
  have hx := S.1
  have hb := S.2.1
  intro n
  induction n with
  | zero => intro x4 ls hl hw hf; cases hf
  | succ n ih =>
    intro x4 ls hl hw hf
    rw [mM_valueAt_L3] at hf
    refine lv_iload (pc := 3) hx hb dM_valueAt_3 (lv_at hl 3 rfl) ?_
    refine lv_if_le (pc := 5) (tgt := 47) hx hb dM_valueAt_5 (by decide) (fun hc => ?_) (fun hc => ?_)
    · replace hf := jit hf hc
      exact hk x4 _ (lv_sub hl [0, 1, 2, 3] rfl) hw hf
    · replace hf := jif hf hc
      refine lv_aload_n (pc := 8) hx hb dM_valueAt_8 rfl (lv_at hl 0 rfl) ?_
      refine j_get (pc := 9) (v := .ref (ad 4)) S hw inM 0 6 9 mg_0 rfl (by decide) k_605 rfl dM_valueAt_9 ?_
      refine lv_iload (pc := 12) hx hb dM_valueAt_12 (lv_at hl 3 rfl) ?_
      have hg := jrd_e hf; clear hf; obtain ⟨h2, v1, e3, hf⟩ := hg
      refine j_iald (pc := 14) S hw 4 3 mg_4 mt_4 h2 e3 dM_valueAt_14 ?_
      refine lv_iconst (pc := 15) (v := (1 : Int32)) hx hb dM_valueAt_15 (by decide) ?_
      refine lv_icmp_ne (pc := 16) (tgt := 41) hx hb dM_valueAt_16 (by decide) (fun hc => ?_) (fun hc => ?_)
      · replace hf := jif hf hc
        refine lv_iinc (pc := 41) (v := (x4 + (-1))) (k := 3) (lv' := [(4, .int (x4 + (-1))), (0, .ref (ad 0)), (1, .int x1), (2, .int x2)]) hx hb dM_valueAt_41 hl rfl (j_inc _ (by decide)) (by decide) rfl (fun ls hl => ?_)
        refine lv_goto (pc := 44) (tgt := 3) hx hb dM_valueAt_44 (by decide) ?_
        exact ih (x4 + (-1)) _ (lv_sub hl [1, 2, 3, 0] rfl) hw hf
      · replace hf := jit hf hc
        refine lv_aload_n (pc := 19) hx hb dM_valueAt_19 rfl (lv_at hl 0 rfl) ?_
        refine j_get (pc := 20) (v := .ref (ad 6)) S hw inM 0 6 11 mg_0 rfl (by decide) k_607 rfl dM_valueAt_20 ?_
        refine lv_iload (pc := 23) hx hb dM_valueAt_23 (lv_at hl 3 rfl) ?_
        have hg := jrd_e hf; clear hf; obtain ⟨h5, v4, e6, hf⟩ := hg
        refine j_iald (pc := 25) S hw 6 5 mg_6 mt_6 h5 e6 dM_valueAt_25 ?_
        refine lv_iload_n (pc := 26) hx hb dM_valueAt_26 rfl (lv_at hl 1 rfl) ?_
        refine lv_icmp_ne (pc := 27) (tgt := 41) hx hb dM_valueAt_27 (by decide) (fun hc => ?_) (fun hc => ?_)
        · replace hf := jif hf hc
          refine lv_iinc (pc := 41) (v := (x4 + (-1))) (k := 3) (lv' := [(4, .int (x4 + (-1))), (0, .ref (ad 0)), (1, .int x1), (2, .int x2)]) hx hb dM_valueAt_41 hl rfl (j_inc _ (by decide)) (by decide) rfl (fun ls hl => ?_)
          refine lv_goto (pc := 44) (tgt := 3) hx hb dM_valueAt_44 (by decide) ?_
          exact ih (x4 + (-1)) _ (lv_sub hl [1, 2, 3, 0] rfl) hw hf
        · replace hf := jit hf hc
          refine lv_aload_n (pc := 30) hx hb dM_valueAt_30 rfl (lv_at hl 0 rfl) ?_
          refine j_get (pc := 31) (v := .ref (ad 7)) S hw inM 0 6 12 mg_0 rfl (by decide) k_608 rfl dM_valueAt_31 ?_
          refine lv_iload (pc := 34) hx hb dM_valueAt_34 (lv_at hl 3 rfl) ?_
          have hg := jrd_e hf; clear hf; obtain ⟨h8, v7, e9, hf⟩ := hg
          refine j_iald (pc := 36) S hw 7 6 mg_7 mt_7 h8 e9 dM_valueAt_36 ?_
          refine lv_iload_n (pc := 37) hx hb dM_valueAt_37 rfl (lv_at hl 2 rfl) ?_
          refine lv_icmp_eq (pc := 38) (tgt := 47) hx hb dM_valueAt_38 (by decide) (fun hc => ?_) (fun hc => ?_)
          · replace hf := jit hf hc
            exact hk x4 _ (lv_sub hl [0, 1, 2, 3] rfl) hw hf
          · replace hf := jif hf hc
            refine lv_iinc (pc := 41) (v := (x4 + (-1))) (k := 3) (lv' := [(4, .int (x4 + (-1))), (0, .ref (ad 0)), (1, .int x1), (2, .int x2)]) hx hb dM_valueAt_41 hl rfl (j_inc _ (by decide)) (by decide) rfl (fun ls hl => ?_)
            refine lv_goto (pc := 44) (tgt := 3) hx hb dM_valueAt_44 (by decide) ?_
            exact ih (x4 + (-1)) _ (lv_sub hl [1, 2, 3, 0] rfl) hw hf
set_option maxHeartbeats 4000000 in
set_option maxRecDepth 100000 in
theorem bM_valueAt {p : Program} {l : Launch} {e : Env} {s : State} {m : MethodId} {args : Array Value} {below : List Frame} {meth : Method} {c : Code} {D : va_G} {ca : Nat → ClassId} {ad : Nat → Nat} {A : Nat → Prop} (hA : ∀ q, s.heap.size ≤ q → A q) (S : CallFix p m c cM_valueAt 5 s args jall RM) (hN : mN A s) (hr : meth.sig.returnType = some .int) (hlk : meth.locks = false) (out : Int32) (σ : JS) (x1 : Int32) (x2 : Int32) (x3 : Int32) (ls : Array Slot) (hl : lv_has ls 5 [(0, .ref (ad 0)), (1, .int x1), (2, .int x2), (3, .int x3)]) (hw : jH D (mT ca) (mC ca ad σ) A s.heap s.heap [] s) (hf : mM_valueAt σ x1 x2 x3 = some out) : W p l e (headSpec wsM_valueAt rmM_valueAt).room s m args below meth c s.heap [] 0 0 (MQ below (jSi out) args s 0 0 (fun _ => False)) (F0 m 0 ls []) := by
  have hx := S.1
  have hb := S.2.1
  unfold mM_valueAt at hf
  refine lv_iload_n (pc := 0) hx hb dM_valueAt_0 rfl (lv_at hl 3 rfl) ?_
  refine lv_istore (pc := 1) (lv' := [(4, .int x3), (0, .ref (ad 0)), (1, .int x1), (2, .int x2), (3, .int x3)]) hx hb dM_valueAt_1 hl (by decide) rfl (fun ls hl => ?_)
  refine wmM_valueAt_L3 hA S hN hr hlk out _ σ x1 x2 (fun z10 ls hl hw hf => ?_) 999 x3 _ (lv_sub hl [1, 2, 3, 0] rfl) hw hf
  try dsimp only at hf
  refine lv_iload (pc := 47) hx hb dM_valueAt_47 (lv_at hl 3 rfl) ?_
  refine lv_if_le (pc := 49) (tgt := 62) hx hb dM_valueAt_49 (by decide) (fun hc => ?_) (fun hc => ?_)
  · replace hf := jit hf hc
    refine lv_iconst (pc := 62) (v := (0 : Int32)) hx hb dM_valueAt_62 (by decide) ?_
    obtain rfl := jsm hf
    exact j_ipr (pc := 63) S hr hlk dM_valueAt_63
  · replace hf := jif hf hc
    refine lv_aload_n (pc := 52) hx hb dM_valueAt_52 rfl (lv_at hl 0 rfl) ?_
    refine j_get (pc := 53) (v := .ref (ad 9)) S hw inM 0 6 14 mg_0 rfl (by decide) k_610 rfl dM_valueAt_53 ?_
    refine lv_iload (pc := 56) hx hb dM_valueAt_56 (lv_at hl 3 rfl) ?_
    have hg := jrd_e hf; clear hf; obtain ⟨h12, v11, e13, hf⟩ := hg
    refine j_iald (pc := 58) S hw 9 8 mg_9 mt_9 h12 e13 dM_valueAt_58 ?_
    refine lv_goto (pc := 59) (tgt := 63) hx hb dM_valueAt_59 (by decide) ?_
    obtain rfl := jsm hf
    exact j_ipr (pc := 63) S hr hlk dM_valueAt_63
set_option maxHeartbeats 4000000 in
set_option maxRecDepth 100000 in
theorem kM_valueAt (l : Launch) (D : va_G) (ca : Nat → ClassId) (ad : Nat → Nat) (sz : Nat) (σ : JS) (x1 : Int32) (x2 : Int32) (x3 : Int32) (out : Int32) (hf : mM_valueAt σ x1 x2 x3 = some out) : Met l yM_valueAt wsM_valueAt rmM_valueAt (jPre D (mT ca) (mC ca ad σ) (mN (va_A (mC ca ad σ) sz)) sz [.ref (ad 0), .int x1, .int x2, .int x3]) (jSi out) 0 0 (fun _ => False) := by
  refine Met.ofW (cc := cM_valueAt) (maxL := 5) (ret := some .int) (by decide) rfl ?_
  intro p e s m args below meth c s₁ B hml hv
  obtain ⟨rfl, hsz, hP, hK, hD0, hN⟩ := hv
  subst hsz
  have hl := lv_entry [.ref (ad 0), .int x1, .int x2, .int x3] (n := 5) (Nat.le_of_ble_eq_true rfl)
  rw [lg_entry_eq]
  generalize (lg_sl [.ref (ad 0), .int x1, .int x2, .int x3] ++ List.replicate (5 - (lg_sl [.ref (ad 0), .int x1, .int x2, .int x3]).length) Slot.unset).toArray = ls at hl ⊢
  exact bM_valueAt (fun q h => Or.inr h) ⟨B.exec, B.bytes, hml, findClass_of_methodNamed B.named, fun w h => atoms_spec (ws := wsM_valueAt) B.pre w (List.mem_cons_of_mem _ h)⟩ hN B.returns B.notSynchronized out σ x1 x2 x3 ls hl ⟨hP, hD0.self, va_S.rf, hK⟩ hf

def rmM_cycleAt : Room := { frames := 0, cells := 0, slots := 0, locals := 0 }
def mM_cycleAt_L5 (σ : JS) (x1 : Int32) (x2 : Int32) : Nat → Int32 → Int32 → Option (Int32)
  | 0, _, _ => none
  | n + 1, x3, x4 =>
    if x2 < x4 then
    (some x3)
    else
    (jrd σ 5 121 x4 fun v1 =>
    if v1 = x1 then
    (jrd σ 4 121 x4 fun v4 =>
    if v4 = (1 : Int32) then
    (if x3 = 0 then
    (mM_cycleAt_L5 σ x1 x2 n x4 (x4 + 1))
    else
    (mM_cycleAt_L5 σ x1 x2 n x3 (x4 + 1)))
    else
    (mM_cycleAt_L5 σ x1 x2 n (0 : Int32) (x4 + 1)))
    else
    (mM_cycleAt_L5 σ x1 x2 n x3 (x4 + 1)))
def mM_cycleAt (σ : JS) (x1 : Int32) (x2 : Int32) : Option (Int32) :=
  mM_cycleAt_L5 σ x1 x2 999 (0 : Int32) (1 : Int32)
set_option maxHeartbeats 4000000 in
set_option maxRecDepth 100000 in
theorem wmM_cycleAt_L5 {p : Program} {l : Launch} {e : Env} {s : State} {m : MethodId} {args : Array Value} {below : List Frame} {meth : Method} {c : Code} {D : va_G} {ca : Nat → ClassId} {ad : Nat → Nat} {A : Nat → Prop} (hA : ∀ q, s.heap.size ≤ q → A q) (S : CallFix p m c cM_cycleAt 5 s args jall RM) (hN : mN A s) (hr : meth.sig.returnType = some .int) (hlk : meth.locks = false) (out : Int32) (σ : JS) (x1 : Int32) (x2 : Int32) : ∀ (n : Nat) (x3 : Int32) (x4 : Int32) (ls : Array Slot) , lv_has ls 5 [(0, .ref (ad 0)), (1, .int x1), (2, .int x2), (3, .int x3), (4, .int x4)] → jH D (mT ca) (mC ca ad σ) A s.heap s.heap [] s → mM_cycleAt_L5 σ x1 x2 n x3 x4 = some out → W p l e (headSpec wsM_cycleAt rmM_cycleAt).room s m args below meth c s.heap [] 0 0 (MQ below (jSi out) args s 0 0 (fun _ => False)) (F0 m 5 ls []) := by
  have hx := S.1
  have hb := S.2.1
  intro n
  induction n with
  | zero => intro x3 x4 ls hl hw hf; cases hf
  | succ n ih =>
    intro x3 x4 ls hl hw hf
    rw [mM_cycleAt_L5] at hf
    refine lv_iload (pc := 5) hx hb dM_cycleAt_5 (lv_at hl 4 rfl) ?_
    refine lv_iload_n (pc := 7) hx hb dM_cycleAt_7 rfl (lv_at hl 2 rfl) ?_
    refine lv_icmp_gt (pc := 8) (tgt := 54) hx hb dM_cycleAt_8 (by decide) (fun hc => ?_) (fun hc => ?_)
    · replace hf := jit hf hc
      refine lv_iload_n (pc := 54) hx hb dM_cycleAt_54 rfl (lv_at hl 3 rfl) ?_
      obtain rfl := jsm hf
      exact j_ipr (pc := 55) S hr hlk dM_cycleAt_55
    · replace hf := jif hf hc
      refine lv_aload_n (pc := 11) hx hb dM_cycleAt_11 rfl (lv_at hl 0 rfl) ?_
      refine j_get (pc := 12) (v := .ref (ad 5)) S hw inM 0 6 10 mg_0 rfl (by decide) k_606 rfl dM_cycleAt_12 ?_
      refine lv_iload (pc := 15) hx hb dM_cycleAt_15 (lv_at hl 4 rfl) ?_
      have hg := jrd_e hf; clear hf; obtain ⟨h2, v1, e3, hf⟩ := hg
      refine j_iald (pc := 17) S hw 5 4 mg_5 mt_5 h2 e3 dM_cycleAt_17 ?_
      refine lv_iload_n (pc := 18) hx hb dM_cycleAt_18 rfl (lv_at hl 1 rfl) ?_
      refine lv_icmp_ne (pc := 19) (tgt := 48) hx hb dM_cycleAt_19 (by decide) (fun hc => ?_) (fun hc => ?_)
      · replace hf := jif hf hc
        refine lv_iinc (pc := 48) (v := (x4 + 1)) (k := 4) (lv' := [(4, .int (x4 + 1)), (0, .ref (ad 0)), (1, .int x1), (2, .int x2), (3, .int x3)]) hx hb dM_cycleAt_48 hl rfl (j_inc _ (by decide)) (by decide) rfl (fun ls hl => ?_)
        refine lv_goto (pc := 51) (tgt := 5) hx hb dM_cycleAt_51 (by decide) ?_
        exact ih x3 (x4 + 1) _ (lv_sub hl [1, 2, 3, 4, 0] rfl) hw hf
      · replace hf := jit hf hc
        refine lv_aload_n (pc := 22) hx hb dM_cycleAt_22 rfl (lv_at hl 0 rfl) ?_
        refine j_get (pc := 23) (v := .ref (ad 4)) S hw inM 0 6 9 mg_0 rfl (by decide) k_605 rfl dM_cycleAt_23 ?_
        refine lv_iload (pc := 26) hx hb dM_cycleAt_26 (lv_at hl 4 rfl) ?_
        have hg := jrd_e hf; clear hf; obtain ⟨h5, v4, e6, hf⟩ := hg
        refine j_iald (pc := 28) S hw 4 3 mg_4 mt_4 h5 e6 dM_cycleAt_28 ?_
        refine lv_iconst (pc := 29) (v := (1 : Int32)) hx hb dM_cycleAt_29 (by decide) ?_
        refine lv_icmp_eq (pc := 30) (tgt := 37) hx hb dM_cycleAt_30 (by decide) (fun hc => ?_) (fun hc => ?_)
        · replace hf := jit hf hc
          refine lv_iload_n (pc := 37) hx hb dM_cycleAt_37 rfl (lv_at hl 3 rfl) ?_
          refine lv_if_ne (pc := 38) (tgt := 46) hx hb dM_cycleAt_38 (by decide) (fun hc => ?_) (fun hc => ?_)
          · replace hf := jif hf hc
            refine lv_iload_n (pc := 46) hx hb dM_cycleAt_46 rfl (lv_at hl 3 rfl) ?_
            refine lv_istore_n (pc := 47) (lv' := [(3, .int x3), (0, .ref (ad 0)), (1, .int x1), (2, .int x2), (4, .int x4)]) hx hb dM_cycleAt_47 rfl hl (by decide) rfl (fun ls hl => ?_)
            refine lv_iinc (pc := 48) (v := (x4 + 1)) (k := 4) (lv' := [(4, .int (x4 + 1)), (3, .int x3), (0, .ref (ad 0)), (1, .int x1), (2, .int x2)]) hx hb dM_cycleAt_48 hl rfl (j_inc _ (by decide)) (by decide) rfl (fun ls hl => ?_)
            refine lv_goto (pc := 51) (tgt := 5) hx hb dM_cycleAt_51 (by decide) ?_
            exact ih x3 (x4 + 1) _ (lv_sub hl [2, 3, 4, 1, 0] rfl) hw hf
          · replace hf := jit hf hc
            refine lv_iload (pc := 41) hx hb dM_cycleAt_41 (lv_at hl 4 rfl) ?_
            refine lv_goto (pc := 43) (tgt := 47) hx hb dM_cycleAt_43 (by decide) ?_
            refine lv_istore_n (pc := 47) (lv' := [(3, .int x4), (0, .ref (ad 0)), (1, .int x1), (2, .int x2), (4, .int x4)]) hx hb dM_cycleAt_47 rfl hl (by decide) rfl (fun ls hl => ?_)
            refine lv_iinc (pc := 48) (v := (x4 + 1)) (k := 4) (lv' := [(4, .int (x4 + 1)), (3, .int x4), (0, .ref (ad 0)), (1, .int x1), (2, .int x2)]) hx hb dM_cycleAt_48 hl rfl (j_inc _ (by decide)) (by decide) rfl (fun ls hl => ?_)
            refine lv_goto (pc := 51) (tgt := 5) hx hb dM_cycleAt_51 (by decide) ?_
            exact ih x4 (x4 + 1) _ (lv_sub hl [2, 3, 4, 1, 0] rfl) hw hf
        · replace hf := jif hf hc
          refine lv_iconst (pc := 33) (v := (0 : Int32)) hx hb dM_cycleAt_33 (by decide) ?_
          refine lv_goto (pc := 34) (tgt := 47) hx hb dM_cycleAt_34 (by decide) ?_
          refine lv_istore_n (pc := 47) (lv' := [(3, .int (0 : Int32)), (0, .ref (ad 0)), (1, .int x1), (2, .int x2), (4, .int x4)]) hx hb dM_cycleAt_47 rfl hl (by decide) rfl (fun ls hl => ?_)
          refine lv_iinc (pc := 48) (v := (x4 + 1)) (k := 4) (lv' := [(4, .int (x4 + 1)), (3, .int (0 : Int32)), (0, .ref (ad 0)), (1, .int x1), (2, .int x2)]) hx hb dM_cycleAt_48 hl rfl (j_inc _ (by decide)) (by decide) rfl (fun ls hl => ?_)
          refine lv_goto (pc := 51) (tgt := 5) hx hb dM_cycleAt_51 (by decide) ?_
          exact ih (0 : Int32) (x4 + 1) _ (lv_sub hl [2, 3, 4, 1, 0] rfl) hw hf
set_option maxHeartbeats 4000000 in
set_option maxRecDepth 100000 in
theorem bM_cycleAt {p : Program} {l : Launch} {e : Env} {s : State} {m : MethodId} {args : Array Value} {below : List Frame} {meth : Method} {c : Code} {D : va_G} {ca : Nat → ClassId} {ad : Nat → Nat} {A : Nat → Prop} (hA : ∀ q, s.heap.size ≤ q → A q) (S : CallFix p m c cM_cycleAt 5 s args jall RM) (hN : mN A s) (hr : meth.sig.returnType = some .int) (hlk : meth.locks = false) (out : Int32) (σ : JS) (x1 : Int32) (x2 : Int32) (ls : Array Slot) (hl : lv_has ls 5 [(0, .ref (ad 0)), (1, .int x1), (2, .int x2)]) (hw : jH D (mT ca) (mC ca ad σ) A s.heap s.heap [] s) (hf : mM_cycleAt σ x1 x2 = some out) : W p l e (headSpec wsM_cycleAt rmM_cycleAt).room s m args below meth c s.heap [] 0 0 (MQ below (jSi out) args s 0 0 (fun _ => False)) (F0 m 0 ls []) := by
  have hx := S.1
  have hb := S.2.1
  unfold mM_cycleAt at hf
  refine lv_iconst (pc := 0) (v := (0 : Int32)) hx hb dM_cycleAt_0 (by decide) ?_
  refine lv_istore_n (pc := 1) (lv' := [(3, .int (0 : Int32)), (0, .ref (ad 0)), (1, .int x1), (2, .int x2)]) hx hb dM_cycleAt_1 rfl hl (by decide) rfl (fun ls hl => ?_)
  refine lv_iconst (pc := 2) (v := (1 : Int32)) hx hb dM_cycleAt_2 (by decide) ?_
  refine lv_istore (pc := 3) (lv' := [(4, .int (1 : Int32)), (3, .int (0 : Int32)), (0, .ref (ad 0)), (1, .int x1), (2, .int x2)]) hx hb dM_cycleAt_3 hl (by decide) rfl (fun ls hl => ?_)
  exact wmM_cycleAt_L5 hA S hN hr hlk out σ x1 x2 999 (0 : Int32) (1 : Int32) _ (lv_sub hl [2, 3, 4, 1, 0] rfl) hw hf
set_option maxHeartbeats 4000000 in
set_option maxRecDepth 100000 in
theorem kM_cycleAt (l : Launch) (D : va_G) (ca : Nat → ClassId) (ad : Nat → Nat) (sz : Nat) (σ : JS) (x1 : Int32) (x2 : Int32) (out : Int32) (hf : mM_cycleAt σ x1 x2 = some out) : Met l yM_cycleAt wsM_cycleAt rmM_cycleAt (jPre D (mT ca) (mC ca ad σ) (mN (va_A (mC ca ad σ) sz)) sz [.ref (ad 0), .int x1, .int x2]) (jSi out) 0 0 (fun _ => False) := by
  refine Met.ofW (cc := cM_cycleAt) (maxL := 5) (ret := some .int) (by decide) rfl ?_
  intro p e s m args below meth c s₁ B hml hv
  obtain ⟨rfl, hsz, hP, hK, hD0, hN⟩ := hv
  subst hsz
  have hl := lv_entry [.ref (ad 0), .int x1, .int x2] (n := 5) (Nat.le_of_ble_eq_true rfl)
  rw [lg_entry_eq]
  generalize (lg_sl [.ref (ad 0), .int x1, .int x2] ++ List.replicate (5 - (lg_sl [.ref (ad 0), .int x1, .int x2]).length) Slot.unset).toArray = ls at hl ⊢
  exact bM_cycleAt (fun q h => Or.inr h) ⟨B.exec, B.bytes, hml, findClass_of_methodNamed B.named, fun w h => atoms_spec (ws := wsM_cycleAt) B.pre w (List.mem_cons_of_mem _ h)⟩ hN B.returns B.notSynchronized out σ x1 x2 ls hl ⟨hP, hD0.self, va_S.rf, hK⟩ hf

def rmM_isOn : Room := { frames := 1, cells := 0, slots := 0, locals := 24 }
def mM_isOn_L24 (k : Int32 → Int32 → Option (Int32)) (σ : JS) (x1 : Int32) (x2 : Int32) (x4 : Int32) (x5 : Int32) : Nat → Int32 → Int32 → Option (Int32)
  | 0, _, _ => none
  | n + 1, x3, x6 =>
    if x2 < x6 then
    (k x3 x6)
    else
    (if x5 ≤ 0 then
    (k x3 x6)
    else
    (if x3 = 0 then
    (jrd σ 5 121 x6 fun v3 =>
    if v3 = x4 then
    (jrd σ 6 121 x6 fun v6 =>
    if v6 = x1 then
    (mM_isOn_L24 k σ x1 x2 x4 x5 n (1 : Int32) (x6 + 1))
    else
    (mM_isOn_L24 k σ x1 x2 x4 x5 n (0 : Int32) (x6 + 1)))
    else
    (mM_isOn_L24 k σ x1 x2 x4 x5 n (0 : Int32) (x6 + 1)))
    else
    (mM_isOn_L24 k σ x1 x2 x4 x5 n (1 : Int32) (x6 + 1))))
def mM_isOn_L5 (σ : JS) (x1 : Int32) (x2 : Int32) : Nat → Int32 → Int32 → Option (Int32)
  | 0, _, _ => none
  | n + 1, x3, x4 =>
    if (4 : Int32) ≤ x4 then
    (jzc x3 (some x3))
    else
    (jbn (mM_cycleAt σ x4 x2) fun q1 =>
    mM_isOn_L24 (fun z9 z10 =>
    mM_isOn_L5 σ x1 x2 n z9 (x4 + 1)) σ x1 x2 x4 q1 999 x3 q1)
def mM_isOn (σ : JS) (x1 : Int32) (x2 : Int32) : Option (Int32) :=
  mM_isOn_L5 σ x1 x2 999 (0 : Int32) (0 : Int32)
set_option maxHeartbeats 4000000 in
set_option maxRecDepth 100000 in
theorem wmM_isOn_L24 {p : Program} {l : Launch} {e : Env} {s : State} {m : MethodId} {args : Array Value} {below : List Frame} {meth : Method} {c : Code} {D : va_G} {ca : Nat → ClassId} {ad : Nat → Nat} {A : Nat → Prop} (hA : ∀ q, s.heap.size ≤ q → A q) (S : CallFix p m c cM_isOn 7 s args jall RM) (hN : mN A s) (hr : meth.sig.returnType = some .boolean) (hlk : meth.locks = false) (out : Int32) (k : Int32 → Int32 → Option (Int32)) (σ : JS) (x1 : Int32) (x2 : Int32) (x4 : Int32) (x5 : Int32) (hk : ∀ (x3 : Int32) (x6 : Int32) (ls : Array Slot) , lv_has ls 7 [(0, .ref (ad 0)), (1, .int x1), (2, .int x2), (3, .int x3), (4, .int x4), (5, .int x5), (6, .int x6)] → jH D (mT ca) (mC ca ad σ) A s.heap s.heap [] s → k x3 x6 = some out → W p l e (headSpec wsM_isOn rmM_isOn).room s m args below meth c s.heap [] 0 0 (MQ below (jSi out) args s 0 0 (fun _ => False)) (F0 m 74 ls [])) : ∀ (n : Nat) (x3 : Int32) (x6 : Int32) (ls : Array Slot) , lv_has ls 7 [(0, .ref (ad 0)), (1, .int x1), (2, .int x2), (3, .int x3), (4, .int x4), (5, .int x5), (6, .int x6)] → jH D (mT ca) (mC ca ad σ) A s.heap s.heap [] s → mM_isOn_L24 k σ x1 x2 x4 x5 n x3 x6 = some out → W p l e (headSpec wsM_isOn rmM_isOn).room s m args below meth c s.heap [] 0 0 (MQ below (jSi out) args s 0 0 (fun _ => False)) (F0 m 24 ls []) := by
  have hx := S.1
  have hb := S.2.1
  intro n
  induction n with
  | zero => intro x3 x6 ls hl hw hf; cases hf
  | succ n ih =>
    intro x3 x6 ls hl hw hf
    rw [mM_isOn_L24] at hf
    refine lv_iload (pc := 24) hx hb dM_isOn_24 (lv_at hl 6 rfl) ?_
    refine lv_iload_n (pc := 26) hx hb dM_isOn_26 rfl (lv_at hl 2 rfl) ?_
    refine lv_icmp_gt (pc := 27) (tgt := 74) hx hb dM_isOn_27 (by decide) (fun hc => ?_) (fun hc => ?_)
    · replace hf := jit hf hc
      exact hk x3 x6 _ (lv_sub hl [0, 1, 2, 3, 4, 5, 6] rfl) hw hf
    · replace hf := jif hf hc
      refine lv_iload (pc := 30) hx hb dM_isOn_30 (lv_at hl 5 rfl) ?_
      refine lv_if_le (pc := 32) (tgt := 74) hx hb dM_isOn_32 (by decide) (fun hc => ?_) (fun hc => ?_)
      · replace hf := jit hf hc
        exact hk x3 x6 _ (lv_sub hl [0, 1, 2, 3, 4, 5, 6] rfl) hw hf
      · replace hf := jif hf hc
        refine lv_iload_n (pc := 35) hx hb dM_isOn_35 rfl (lv_at hl 3 rfl) ?_
        refine lv_if_ne (pc := 36) (tgt := 62) hx hb dM_isOn_36 (by decide) (fun hc => ?_) (fun hc => ?_)
        · replace hf := jif hf hc
          refine lv_iconst (pc := 62) (v := (1 : Int32)) hx hb dM_isOn_62 (by decide) ?_
          refine lv_goto (pc := 63) (tgt := 67) hx hb dM_isOn_63 (by decide) ?_
          refine lv_istore_n (pc := 67) (lv' := [(3, .int (1 : Int32)), (0, .ref (ad 0)), (1, .int x1), (2, .int x2), (4, .int x4), (5, .int x5), (6, .int x6)]) hx hb dM_isOn_67 rfl hl (by decide) rfl (fun ls hl => ?_)
          refine lv_iinc (pc := 68) (v := (x6 + 1)) (k := 6) (lv' := [(6, .int (x6 + 1)), (3, .int (1 : Int32)), (0, .ref (ad 0)), (1, .int x1), (2, .int x2), (4, .int x4), (5, .int x5)]) hx hb dM_isOn_68 hl rfl (j_inc _ (by decide)) (by decide) rfl (fun ls hl => ?_)
          refine lv_goto (pc := 71) (tgt := 24) hx hb dM_isOn_71 (by decide) ?_
          exact ih (1 : Int32) (x6 + 1) _ (lv_sub hl [2, 3, 4, 1, 5, 6, 0] rfl) hw hf
        · replace hf := jit hf hc
          refine lv_aload_n (pc := 39) hx hb dM_isOn_39 rfl (lv_at hl 0 rfl) ?_
          refine j_get (pc := 40) (v := .ref (ad 5)) S hw inM 0 6 10 mg_0 rfl (by decide) k_606 rfl dM_isOn_40 ?_
          refine lv_iload (pc := 43) hx hb dM_isOn_43 (lv_at hl 6 rfl) ?_
          have hg := jrd_e hf; clear hf; obtain ⟨h4, v3, e5, hf⟩ := hg
          refine j_iald (pc := 45) S hw 5 4 mg_5 mt_5 h4 e5 dM_isOn_45 ?_
          refine lv_iload (pc := 46) hx hb dM_isOn_46 (lv_at hl 4 rfl) ?_
          refine lv_icmp_ne (pc := 48) (tgt := 66) hx hb dM_isOn_48 (by decide) (fun hc => ?_) (fun hc => ?_)
          · replace hf := jif hf hc
            refine lv_iconst (pc := 66) (v := (0 : Int32)) hx hb dM_isOn_66 (by decide) ?_
            refine lv_istore_n (pc := 67) (lv' := [(3, .int (0 : Int32)), (0, .ref (ad 0)), (1, .int x1), (2, .int x2), (4, .int x4), (5, .int x5), (6, .int x6)]) hx hb dM_isOn_67 rfl hl (by decide) rfl (fun ls hl => ?_)
            refine lv_iinc (pc := 68) (v := (x6 + 1)) (k := 6) (lv' := [(6, .int (x6 + 1)), (3, .int (0 : Int32)), (0, .ref (ad 0)), (1, .int x1), (2, .int x2), (4, .int x4), (5, .int x5)]) hx hb dM_isOn_68 hl rfl (j_inc _ (by decide)) (by decide) rfl (fun ls hl => ?_)
            refine lv_goto (pc := 71) (tgt := 24) hx hb dM_isOn_71 (by decide) ?_
            exact ih (0 : Int32) (x6 + 1) _ (lv_sub hl [2, 3, 4, 1, 5, 6, 0] rfl) hw hf
          · replace hf := jit hf hc
            refine lv_aload_n (pc := 51) hx hb dM_isOn_51 rfl (lv_at hl 0 rfl) ?_
            refine j_get (pc := 52) (v := .ref (ad 6)) S hw inM 0 6 11 mg_0 rfl (by decide) k_607 rfl dM_isOn_52 ?_
            refine lv_iload (pc := 55) hx hb dM_isOn_55 (lv_at hl 6 rfl) ?_
            have hg := jrd_e hf; clear hf; obtain ⟨h7, v6, e8, hf⟩ := hg
            refine j_iald (pc := 57) S hw 6 5 mg_6 mt_6 h7 e8 dM_isOn_57 ?_
            refine lv_iload_n (pc := 58) hx hb dM_isOn_58 rfl (lv_at hl 1 rfl) ?_
            refine lv_icmp_ne (pc := 59) (tgt := 66) hx hb dM_isOn_59 (by decide) (fun hc => ?_) (fun hc => ?_)
            · replace hf := jif hf hc
              refine lv_iconst (pc := 66) (v := (0 : Int32)) hx hb dM_isOn_66 (by decide) ?_
              refine lv_istore_n (pc := 67) (lv' := [(3, .int (0 : Int32)), (0, .ref (ad 0)), (1, .int x1), (2, .int x2), (4, .int x4), (5, .int x5), (6, .int x6)]) hx hb dM_isOn_67 rfl hl (by decide) rfl (fun ls hl => ?_)
              refine lv_iinc (pc := 68) (v := (x6 + 1)) (k := 6) (lv' := [(6, .int (x6 + 1)), (3, .int (0 : Int32)), (0, .ref (ad 0)), (1, .int x1), (2, .int x2), (4, .int x4), (5, .int x5)]) hx hb dM_isOn_68 hl rfl (j_inc _ (by decide)) (by decide) rfl (fun ls hl => ?_)
              refine lv_goto (pc := 71) (tgt := 24) hx hb dM_isOn_71 (by decide) ?_
              exact ih (0 : Int32) (x6 + 1) _ (lv_sub hl [2, 3, 4, 1, 5, 6, 0] rfl) hw hf
            · replace hf := jit hf hc
              refine lv_iconst (pc := 62) (v := (1 : Int32)) hx hb dM_isOn_62 (by decide) ?_
              refine lv_goto (pc := 63) (tgt := 67) hx hb dM_isOn_63 (by decide) ?_
              refine lv_istore_n (pc := 67) (lv' := [(3, .int (1 : Int32)), (0, .ref (ad 0)), (1, .int x1), (2, .int x2), (4, .int x4), (5, .int x5), (6, .int x6)]) hx hb dM_isOn_67 rfl hl (by decide) rfl (fun ls hl => ?_)
              refine lv_iinc (pc := 68) (v := (x6 + 1)) (k := 6) (lv' := [(6, .int (x6 + 1)), (3, .int (1 : Int32)), (0, .ref (ad 0)), (1, .int x1), (2, .int x2), (4, .int x4), (5, .int x5)]) hx hb dM_isOn_68 hl rfl (j_inc _ (by decide)) (by decide) rfl (fun ls hl => ?_)
              refine lv_goto (pc := 71) (tgt := 24) hx hb dM_isOn_71 (by decide) ?_
              exact ih (1 : Int32) (x6 + 1) _ (lv_sub hl [2, 3, 4, 1, 5, 6, 0] rfl) hw hf
set_option maxHeartbeats 4000000 in
set_option maxRecDepth 100000 in
theorem wmM_isOn_L5 {p : Program} {l : Launch} {e : Env} {s : State} {m : MethodId} {args : Array Value} {below : List Frame} {meth : Method} {c : Code} {D : va_G} {ca : Nat → ClassId} {ad : Nat → Nat} {A : Nat → Prop} (hA : ∀ q, s.heap.size ≤ q → A q) (S : CallFix p m c cM_isOn 7 s args jall RM) (hN : mN A s) (hr : meth.sig.returnType = some .boolean) (hlk : meth.locks = false) (out : Int32) (σ : JS) (x1 : Int32) (x2 : Int32) : ∀ (n : Nat) (x3 : Int32) (x4 : Int32) (ls : Array Slot) , lv_has ls 7 [(0, .ref (ad 0)), (1, .int x1), (2, .int x2), (3, .int x3), (4, .int x4)] → jH D (mT ca) (mC ca ad σ) A s.heap s.heap [] s → mM_isOn_L5 σ x1 x2 n x3 x4 = some out → W p l e (headSpec wsM_isOn rmM_isOn).room s m args below meth c s.heap [] 0 0 (MQ below (jSi out) args s 0 0 (fun _ => False)) (F0 m 5 ls []) := by
  have hx := S.1
  have hb := S.2.1
  intro n
  induction n with
  | zero => intro x3 x4 ls hl hw hf; cases hf
  | succ n ih =>
    intro x3 x4 ls hl hw hf
    rw [mM_isOn_L5] at hf
    refine lv_iload (pc := 5) hx hb dM_isOn_5 (lv_at hl 4 rfl) ?_
    refine lv_iconst (pc := 7) (v := (4 : Int32)) hx hb dM_isOn_7 (by decide) ?_
    refine lv_icmp_ge (pc := 8) (tgt := 80) hx hb dM_isOn_8 (by decide) (fun hc => ?_) (fun hc => ?_)
    · replace hf := jit hf hc
      refine lv_iload_n (pc := 80) hx hb dM_isOn_80 rfl (lv_at hl 3 rfl) ?_
      have hg := jzc_e hf; clear hf; obtain ⟨hz9, hf⟩ := hg
      obtain rfl := jsm hf
      exact j_zpr (pc := 81) S hr hlk hz9 dM_isOn_81
    · replace hf := jif hf hc
      refine lv_aload_n (pc := 11) hx hb dM_isOn_11 rfl (lv_at hl 0 rfl) ?_
      refine lv_iload (pc := 12) hx hb dM_isOn_12 (lv_at hl 4 rfl) ?_
      refine lv_iload_n (pc := 14) hx hb dM_isOn_14 rfl (lv_at hl 2 rfl) ?_
      have hg := jbn_e hf; clear hf; obtain ⟨q1, h2, hf⟩ := hg
      refine j_cpi (pc := 15) (v := q1) (va_runV (As := [.int x4, .int x2]) (rest := []) S (kM_cycleAt l D ca ad _ σ x4 x2 q1 h2) (cwV 2 S.2.2.2.2 (jgV k_703 k_705 ks_18 k_7 k_706) rfl rfl rfl (by decide +kernel) ⟨Nat.le_of_ble_eq_true rfl, Nat.le_of_ble_eq_true rfl⟩) (j_preV (As := [.int x4, .int x2]) hw mN_b (mN_to hN hw hA) rfl mg_0) rfl rfl hl.1 rfl (lv_room (Nat.le_of_ble_eq_true rfl)) dM_isOn_15 ⟨Nat.le_of_ble_eq_true rfl, Nat.le_of_ble_eq_true rfl⟩) ?_
      refine lv_istore (pc := 18) (lv' := [(5, .int q1), (0, .ref (ad 0)), (1, .int x1), (2, .int x2), (3, .int x3), (4, .int x4)]) hx hb dM_isOn_18 hl (by decide) rfl (fun ls hl => ?_)
      refine lv_iload (pc := 20) hx hb dM_isOn_20 (lv_at hl 0 rfl) ?_
      refine lv_istore (pc := 22) (lv' := [(6, .int q1), (5, .int q1), (0, .ref (ad 0)), (1, .int x1), (2, .int x2), (3, .int x3), (4, .int x4)]) hx hb dM_isOn_22 hl (by decide) rfl (fun ls hl => ?_)
      refine wmM_isOn_L24 hA S hN hr hlk out _ σ x1 x2 x4 q1 (fun z9 z10 ls hl hw hf => ?_) 999 x3 q1 _ (lv_sub hl [2, 3, 4, 5, 6, 1, 0] rfl) hw hf
      try dsimp only at hf
      refine lv_iinc (pc := 74) (v := (x4 + 1)) (k := 4) (lv' := [(4, .int (x4 + 1)), (0, .ref (ad 0)), (1, .int x1), (2, .int x2), (3, .int z9), (5, .int q1), (6, .int z10)]) hx hb dM_isOn_74 hl rfl (j_inc _ (by decide)) (by decide) rfl (fun ls hl => ?_)
      refine lv_goto (pc := 77) (tgt := 5) hx hb dM_isOn_77 (by decide) ?_
      exact ih z9 (x4 + 1) _ (lv_sub hl [1, 2, 3, 4, 0] rfl) hw hf
set_option maxHeartbeats 4000000 in
set_option maxRecDepth 100000 in
theorem bM_isOn {p : Program} {l : Launch} {e : Env} {s : State} {m : MethodId} {args : Array Value} {below : List Frame} {meth : Method} {c : Code} {D : va_G} {ca : Nat → ClassId} {ad : Nat → Nat} {A : Nat → Prop} (hA : ∀ q, s.heap.size ≤ q → A q) (S : CallFix p m c cM_isOn 7 s args jall RM) (hN : mN A s) (hr : meth.sig.returnType = some .boolean) (hlk : meth.locks = false) (out : Int32) (σ : JS) (x1 : Int32) (x2 : Int32) (ls : Array Slot) (hl : lv_has ls 7 [(0, .ref (ad 0)), (1, .int x1), (2, .int x2)]) (hw : jH D (mT ca) (mC ca ad σ) A s.heap s.heap [] s) (hf : mM_isOn σ x1 x2 = some out) : W p l e (headSpec wsM_isOn rmM_isOn).room s m args below meth c s.heap [] 0 0 (MQ below (jSi out) args s 0 0 (fun _ => False)) (F0 m 0 ls []) := by
  have hx := S.1
  have hb := S.2.1
  unfold mM_isOn at hf
  refine lv_iconst (pc := 0) (v := (0 : Int32)) hx hb dM_isOn_0 (by decide) ?_
  refine lv_istore_n (pc := 1) (lv' := [(3, .int (0 : Int32)), (0, .ref (ad 0)), (1, .int x1), (2, .int x2)]) hx hb dM_isOn_1 rfl hl (by decide) rfl (fun ls hl => ?_)
  refine lv_iconst (pc := 2) (v := (0 : Int32)) hx hb dM_isOn_2 (by decide) ?_
  refine lv_istore (pc := 3) (lv' := [(4, .int (0 : Int32)), (3, .int (0 : Int32)), (0, .ref (ad 0)), (1, .int x1), (2, .int x2)]) hx hb dM_isOn_3 hl (by decide) rfl (fun ls hl => ?_)
  exact wmM_isOn_L5 hA S hN hr hlk out σ x1 x2 999 (0 : Int32) (0 : Int32) _ (lv_sub hl [2, 3, 4, 1, 0] rfl) hw hf
set_option maxHeartbeats 4000000 in
set_option maxRecDepth 100000 in
theorem kM_isOn (l : Launch) (D : va_G) (ca : Nat → ClassId) (ad : Nat → Nat) (sz : Nat) (σ : JS) (x1 : Int32) (x2 : Int32) (out : Int32) (hf : mM_isOn σ x1 x2 = some out) : Met l yM_isOn wsM_isOn rmM_isOn (jPre D (mT ca) (mC ca ad σ) (mN (va_A (mC ca ad σ) sz)) sz [.ref (ad 0), .int x1, .int x2]) (jSi out) 0 0 (fun _ => False) := by
  refine Met.ofW (cc := cM_isOn) (maxL := 7) (ret := some .boolean) (by decide) rfl ?_
  intro p e s m args below meth c s₁ B hml hv
  obtain ⟨rfl, hsz, hP, hK, hD0, hN⟩ := hv
  subst hsz
  have hl := lv_entry [.ref (ad 0), .int x1, .int x2] (n := 7) (Nat.le_of_ble_eq_true rfl)
  rw [lg_entry_eq]
  generalize (lg_sl [.ref (ad 0), .int x1, .int x2] ++ List.replicate (7 - (lg_sl [.ref (ad 0), .int x1, .int x2]).length) Slot.unset).toArray = ls at hl ⊢
  exact bM_isOn (fun q h => Or.inr h) ⟨B.exec, B.bytes, hml, findClass_of_methodNamed B.named, fun w h => atoms_spec (ws := wsM_isOn) B.pre w (List.mem_cons_of_mem _ h)⟩ hN B.returns B.notSynchronized out σ x1 x2 ls hl ⟨hP, hD0.self, va_S.rf, hK⟩ hf

def rmM_changesOf : Room := { frames := 1, cells := 0, slots := 0, locals := 24 }
def mM_changesOf_L15 (σ : JS) (x1 : Int32) (x2 : Int32) : Nat → Int32 → Int32 → Option (Int32)
  | 0, _, _ => none
  | n + 1, x3, x4 =>
    if (σ 100 2) < x4 then
    (some x3)
    else
    (if x2 ≤ 0 then
    (some x3)
    else
    (jrd σ 5 121 x4 fun v3 =>
    if v3 = x1 then
    (mM_changesOf_L15 σ x1 x2 n (x3 + (1 : Int32)) (x4 + 1))
    else
    (mM_changesOf_L15 σ x1 x2 n x3 (x4 + 1))))
def mM_changesOf (σ : JS) (x1 : Int32) : Option (Int32) :=
  jbn (mM_cycleAt σ x1 (σ 100 2)) fun q1 =>
  mM_changesOf_L15 σ x1 q1 999 (0 : Int32) q1
set_option maxHeartbeats 4000000 in
set_option maxRecDepth 100000 in
theorem wmM_changesOf_L15 {p : Program} {l : Launch} {e : Env} {s : State} {m : MethodId} {args : Array Value} {below : List Frame} {meth : Method} {c : Code} {D : va_G} {ca : Nat → ClassId} {ad : Nat → Nat} {A : Nat → Prop} (hA : ∀ q, s.heap.size ≤ q → A q) (S : CallFix p m c cM_changesOf 5 s args jall RM) (hN : mN A s) (hr : meth.sig.returnType = some .int) (hlk : meth.locks = false) (out : Int32) (σ : JS) (x1 : Int32) (x2 : Int32) : ∀ (n : Nat) (x3 : Int32) (x4 : Int32) (ls : Array Slot) , lv_has ls 5 [(0, .ref (ad 0)), (1, .int x1), (2, .int x2), (3, .int x3), (4, .int x4)] → jH D (mT ca) (mC ca ad σ) A s.heap s.heap [] s → mM_changesOf_L15 σ x1 x2 n x3 x4 = some out → W p l e (headSpec wsM_changesOf rmM_changesOf).room s m args below meth c s.heap [] 0 0 (MQ below (jSi out) args s 0 0 (fun _ => False)) (F0 m 15 ls []) := by
  have hx := S.1
  have hb := S.2.1
  intro n
  induction n with
  | zero => intro x3 x4 ls hl hw hf; cases hf
  | succ n ih =>
    intro x3 x4 ls hl hw hf
    rw [mM_changesOf_L15] at hf
    refine lv_iload (pc := 15) hx hb dM_changesOf_15 (lv_at hl 4 rfl) ?_
    refine lv_aload_n (pc := 17) hx hb dM_changesOf_17 rfl (lv_at hl 0 rfl) ?_
    refine j_get (pc := 18) (v := .int (σ 100 2)) S hw inM 0 6 5 mg_0 rfl (by decide) k_601 rfl dM_changesOf_18 ?_
    refine lv_icmp_gt (pc := 21) (tgt := 53) hx hb dM_changesOf_21 (by decide) (fun hc => ?_) (fun hc => ?_)
    · replace hf := jit hf hc
      refine lv_iload_n (pc := 53) hx hb dM_changesOf_53 rfl (lv_at hl 3 rfl) ?_
      obtain rfl := jsm hf
      exact j_ipr (pc := 54) S hr hlk dM_changesOf_54
    · replace hf := jif hf hc
      refine lv_iload_n (pc := 24) hx hb dM_changesOf_24 rfl (lv_at hl 2 rfl) ?_
      refine lv_if_le (pc := 25) (tgt := 53) hx hb dM_changesOf_25 (by decide) (fun hc => ?_) (fun hc => ?_)
      · replace hf := jit hf hc
        refine lv_iload_n (pc := 53) hx hb dM_changesOf_53 rfl (lv_at hl 3 rfl) ?_
        obtain rfl := jsm hf
        exact j_ipr (pc := 54) S hr hlk dM_changesOf_54
      · replace hf := jif hf hc
        refine lv_aload_n (pc := 28) hx hb dM_changesOf_28 rfl (lv_at hl 0 rfl) ?_
        refine j_get (pc := 29) (v := .ref (ad 5)) S hw inM 0 6 10 mg_0 rfl (by decide) k_606 rfl dM_changesOf_29 ?_
        refine lv_iload (pc := 32) hx hb dM_changesOf_32 (lv_at hl 4 rfl) ?_
        have hg := jrd_e hf; clear hf; obtain ⟨h4, v3, e5, hf⟩ := hg
        refine j_iald (pc := 34) S hw 5 4 mg_5 mt_5 h4 e5 dM_changesOf_34 ?_
        refine lv_iload_n (pc := 35) hx hb dM_changesOf_35 rfl (lv_at hl 1 rfl) ?_
        refine lv_icmp_ne (pc := 36) (tgt := 45) hx hb dM_changesOf_36 (by decide) (fun hc => ?_) (fun hc => ?_)
        · replace hf := jif hf hc
          refine lv_iload_n (pc := 45) hx hb dM_changesOf_45 rfl (lv_at hl 3 rfl) ?_
          refine lv_istore_n (pc := 46) (lv' := [(3, .int x3), (0, .ref (ad 0)), (1, .int x1), (2, .int x2), (4, .int x4)]) hx hb dM_changesOf_46 rfl hl (by decide) rfl (fun ls hl => ?_)
          refine lv_iinc (pc := 47) (v := (x4 + 1)) (k := 4) (lv' := [(4, .int (x4 + 1)), (3, .int x3), (0, .ref (ad 0)), (1, .int x1), (2, .int x2)]) hx hb dM_changesOf_47 hl rfl (j_inc _ (by decide)) (by decide) rfl (fun ls hl => ?_)
          refine lv_goto (pc := 50) (tgt := 15) hx hb dM_changesOf_50 (by decide) ?_
          exact ih x3 (x4 + 1) _ (lv_sub hl [2, 3, 4, 1, 0] rfl) hw hf
        · replace hf := jit hf hc
          refine lv_iload_n (pc := 39) hx hb dM_changesOf_39 rfl (lv_at hl 3 rfl) ?_
          refine lv_iconst (pc := 40) (v := (1 : Int32)) hx hb dM_changesOf_40 (by decide) ?_
          refine lv_iadd (pc := 41) hx hb dM_changesOf_41 ?_
          refine lv_goto (pc := 42) (tgt := 46) hx hb dM_changesOf_42 (by decide) ?_
          refine lv_istore_n (pc := 46) (lv' := [(3, .int (x3 + (1 : Int32))), (0, .ref (ad 0)), (1, .int x1), (2, .int x2), (4, .int x4)]) hx hb dM_changesOf_46 rfl hl (by decide) rfl (fun ls hl => ?_)
          refine lv_iinc (pc := 47) (v := (x4 + 1)) (k := 4) (lv' := [(4, .int (x4 + 1)), (3, .int (x3 + (1 : Int32))), (0, .ref (ad 0)), (1, .int x1), (2, .int x2)]) hx hb dM_changesOf_47 hl rfl (j_inc _ (by decide)) (by decide) rfl (fun ls hl => ?_)
          refine lv_goto (pc := 50) (tgt := 15) hx hb dM_changesOf_50 (by decide) ?_
          exact ih (x3 + (1 : Int32)) (x4 + 1) _ (lv_sub hl [2, 3, 4, 1, 0] rfl) hw hf
set_option maxHeartbeats 4000000 in
set_option maxRecDepth 100000 in
theorem bM_changesOf {p : Program} {l : Launch} {e : Env} {s : State} {m : MethodId} {args : Array Value} {below : List Frame} {meth : Method} {c : Code} {D : va_G} {ca : Nat → ClassId} {ad : Nat → Nat} {A : Nat → Prop} (hA : ∀ q, s.heap.size ≤ q → A q) (S : CallFix p m c cM_changesOf 5 s args jall RM) (hN : mN A s) (hr : meth.sig.returnType = some .int) (hlk : meth.locks = false) (out : Int32) (σ : JS) (x1 : Int32) (ls : Array Slot) (hl : lv_has ls 5 [(0, .ref (ad 0)), (1, .int x1)]) (hw : jH D (mT ca) (mC ca ad σ) A s.heap s.heap [] s) (hf : mM_changesOf σ x1 = some out) : W p l e (headSpec wsM_changesOf rmM_changesOf).room s m args below meth c s.heap [] 0 0 (MQ below (jSi out) args s 0 0 (fun _ => False)) (F0 m 0 ls []) := by
  have hx := S.1
  have hb := S.2.1
  unfold mM_changesOf at hf
  refine lv_aload_n (pc := 0) hx hb dM_changesOf_0 rfl (lv_at hl 0 rfl) ?_
  refine lv_iload_n (pc := 1) hx hb dM_changesOf_1 rfl (lv_at hl 1 rfl) ?_
  refine lv_aload_n (pc := 2) hx hb dM_changesOf_2 rfl (lv_at hl 0 rfl) ?_
  refine j_get (pc := 3) (v := .int (σ 100 2)) S hw inM 0 6 5 mg_0 rfl (by decide) k_601 rfl dM_changesOf_3 ?_
  have hg := jbn_e hf; clear hf; obtain ⟨q1, h2, hf⟩ := hg
  refine j_cpi (pc := 6) (v := q1) (va_runV (As := [.int x1, .int (σ 100 2)]) (rest := []) S (kM_cycleAt l D ca ad _ σ x1 (σ 100 2) q1 h2) (cwV 2 S.2.2.2.2 (jgV k_703 k_705 ks_18 k_7 k_706) rfl rfl rfl (by decide +kernel) ⟨Nat.le_of_ble_eq_true rfl, Nat.le_of_ble_eq_true rfl⟩) (j_preV (As := [.int x1, .int (σ 100 2)]) hw mN_b (mN_to hN hw hA) rfl mg_0) rfl rfl hl.1 rfl (lv_room (Nat.le_of_ble_eq_true rfl)) dM_changesOf_6 ⟨Nat.le_of_ble_eq_true rfl, Nat.le_of_ble_eq_true rfl⟩) ?_
  refine lv_istore_n (pc := 9) (lv' := [(2, .int q1), (0, .ref (ad 0)), (1, .int x1)]) hx hb dM_changesOf_9 rfl hl (by decide) rfl (fun ls hl => ?_)
  refine lv_iconst (pc := 10) (v := (0 : Int32)) hx hb dM_changesOf_10 (by decide) ?_
  refine lv_istore_n (pc := 11) (lv' := [(3, .int (0 : Int32)), (2, .int q1), (0, .ref (ad 0)), (1, .int x1)]) hx hb dM_changesOf_11 rfl hl (by decide) rfl (fun ls hl => ?_)
  refine lv_iload_n (pc := 12) hx hb dM_changesOf_12 rfl (lv_at hl 1 rfl) ?_
  refine lv_istore (pc := 13) (lv' := [(4, .int q1), (3, .int (0 : Int32)), (2, .int q1), (0, .ref (ad 0)), (1, .int x1)]) hx hb dM_changesOf_13 hl (by decide) rfl (fun ls hl => ?_)
  exact wmM_changesOf_L15 hA S hN hr hlk out σ x1 q1 999 (0 : Int32) q1 _ (lv_sub hl [3, 4, 2, 1, 0] rfl) hw hf
set_option maxHeartbeats 4000000 in
set_option maxRecDepth 100000 in
theorem kM_changesOf (l : Launch) (D : va_G) (ca : Nat → ClassId) (ad : Nat → Nat) (sz : Nat) (σ : JS) (x1 : Int32) (out : Int32) (hf : mM_changesOf σ x1 = some out) : Met l yM_changesOf wsM_changesOf rmM_changesOf (jPre D (mT ca) (mC ca ad σ) (mN (va_A (mC ca ad σ) sz)) sz [.ref (ad 0), .int x1]) (jSi out) 0 0 (fun _ => False) := by
  refine Met.ofW (cc := cM_changesOf) (maxL := 5) (ret := some .int) (by decide) rfl ?_
  intro p e s m args below meth c s₁ B hml hv
  obtain ⟨rfl, hsz, hP, hK, hD0, hN⟩ := hv
  subst hsz
  have hl := lv_entry [.ref (ad 0), .int x1] (n := 5) (Nat.le_of_ble_eq_true rfl)
  rw [lg_entry_eq]
  generalize (lg_sl [.ref (ad 0), .int x1] ++ List.replicate (5 - (lg_sl [.ref (ad 0), .int x1]).length) Slot.unset).toArray = ls at hl ⊢
  exact bM_changesOf (fun q h => Or.inr h) ⟨B.exec, B.bytes, hml, findClass_of_methodNamed B.named, fun w h => atoms_spec (ws := wsM_changesOf) B.pre w (List.mem_cons_of_mem _ h)⟩ hN B.returns B.notSynchronized out σ x1 ls hl ⟨hP, hD0.self, va_S.rf, hK⟩ hf

def rmM_reserve : Room := { frames := 2, cells := 0, slots := 0, locals := 48 }
def mM_reserve_L4 (σ : JS) : Nat → Int32 → Int32 → Option (Int32)
  | 0, _, _ => none
  | n + 1, x1, x2 =>
    if (4 : Int32) ≤ x2 then
    (some x1)
    else
    (jbn (mM_changesOf σ x2) fun q1 =>
    if q1 ≤ 0 then
    (mM_reserve_L4 σ n x1 (x2 + 1))
    else
    (mM_reserve_L4 σ n ((x1 + q1) + (1 : Int32)) (x2 + 1)))
def mM_reserve (σ : JS)  : Option (Int32) :=
  mM_reserve_L4 σ 999 (0 : Int32) (0 : Int32)
set_option maxHeartbeats 4000000 in
set_option maxRecDepth 100000 in
theorem wmM_reserve_L4 {p : Program} {l : Launch} {e : Env} {s : State} {m : MethodId} {args : Array Value} {below : List Frame} {meth : Method} {c : Code} {D : va_G} {ca : Nat → ClassId} {ad : Nat → Nat} {A : Nat → Prop} (hA : ∀ q, s.heap.size ≤ q → A q) (S : CallFix p m c cM_reserve 4 s args jall RM) (hN : mN A s) (hr : meth.sig.returnType = some .int) (hlk : meth.locks = false) (out : Int32) (σ : JS) : ∀ (n : Nat) (x1 : Int32) (x2 : Int32) (ls : Array Slot) , lv_has ls 4 [(0, .ref (ad 0)), (1, .int x1), (2, .int x2)] → jH D (mT ca) (mC ca ad σ) A s.heap s.heap [] s → mM_reserve_L4 σ n x1 x2 = some out → W p l e (headSpec wsM_reserve rmM_reserve).room s m args below meth c s.heap [] 0 0 (MQ below (jSi out) args s 0 0 (fun _ => False)) (F0 m 4 ls []) := by
  have hx := S.1
  have hb := S.2.1
  intro n
  induction n with
  | zero => intro x1 x2 ls hl hw hf; cases hf
  | succ n ih =>
    intro x1 x2 ls hl hw hf
    rw [mM_reserve_L4] at hf
    refine lv_iload_n (pc := 4) hx hb dM_reserve_4 rfl (lv_at hl 2 rfl) ?_
    refine lv_iconst (pc := 5) (v := (4 : Int32)) hx hb dM_reserve_5 (by decide) ?_
    refine lv_icmp_ge (pc := 6) (tgt := 35) hx hb dM_reserve_6 (by decide) (fun hc => ?_) (fun hc => ?_)
    · replace hf := jit hf hc
      refine lv_iload_n (pc := 35) hx hb dM_reserve_35 rfl (lv_at hl 1 rfl) ?_
      obtain rfl := jsm hf
      exact j_ipr (pc := 36) S hr hlk dM_reserve_36
    · replace hf := jif hf hc
      refine lv_aload_n (pc := 9) hx hb dM_reserve_9 rfl (lv_at hl 0 rfl) ?_
      refine lv_iload_n (pc := 10) hx hb dM_reserve_10 rfl (lv_at hl 2 rfl) ?_
      have hg := jbn_e hf; clear hf; obtain ⟨q1, h2, hf⟩ := hg
      refine j_cpi (pc := 11) (v := q1) (va_runV (As := [.int x2]) (rest := []) S (kM_changesOf l D ca ad _ σ x2 q1 h2) (cwV 1 S.2.2.2.2 (jgV k_699 k_701 ks_19 k_7 k_702) rfl rfl rfl (by decide +kernel) ⟨Nat.le_of_ble_eq_true rfl, Nat.le_of_ble_eq_true rfl⟩) (j_preV (As := [.int x2]) hw mN_b (mN_to hN hw hA) rfl mg_0) rfl rfl hl.1 rfl (lv_room (Nat.le_of_ble_eq_true rfl)) dM_reserve_11 ⟨Nat.le_of_ble_eq_true rfl, Nat.le_of_ble_eq_true rfl⟩) ?_
      refine lv_istore_n (pc := 14) (lv' := [(3, .int q1), (0, .ref (ad 0)), (1, .int x1), (2, .int x2)]) hx hb dM_reserve_14 rfl hl (by decide) rfl (fun ls hl => ?_)
      refine lv_iload_n (pc := 15) hx hb dM_reserve_15 rfl (lv_at hl 0 rfl) ?_
      refine lv_if_le (pc := 16) (tgt := 27) hx hb dM_reserve_16 (by decide) (fun hc => ?_) (fun hc => ?_)
      · replace hf := jit hf hc
        refine lv_iload_n (pc := 27) hx hb dM_reserve_27 rfl (lv_at hl 2 rfl) ?_
        refine lv_istore_n (pc := 28) (lv' := [(1, .int x1), (3, .int q1), (0, .ref (ad 0)), (2, .int x2)]) hx hb dM_reserve_28 rfl hl (by decide) rfl (fun ls hl => ?_)
        refine lv_iinc (pc := 29) (v := (x2 + 1)) (k := 3) (lv' := [(2, .int (x2 + 1)), (1, .int x1), (3, .int q1), (0, .ref (ad 0))]) hx hb dM_reserve_29 hl rfl (j_inc _ (by decide)) (by decide) rfl (fun ls hl => ?_)
        refine lv_goto (pc := 32) (tgt := 4) hx hb dM_reserve_32 (by decide) ?_
        exact ih x1 (x2 + 1) _ (lv_sub hl [3, 1, 0] rfl) hw hf
      · replace hf := jif hf hc
        refine lv_iload_n (pc := 19) hx hb dM_reserve_19 rfl (lv_at hl 2 rfl) ?_
        refine lv_iload_n (pc := 20) hx hb dM_reserve_20 rfl (lv_at hl 0 rfl) ?_
        refine lv_iadd (pc := 21) hx hb dM_reserve_21 ?_
        refine lv_iconst (pc := 22) (v := (1 : Int32)) hx hb dM_reserve_22 (by decide) ?_
        refine lv_iadd (pc := 23) hx hb dM_reserve_23 ?_
        refine lv_goto (pc := 24) (tgt := 28) hx hb dM_reserve_24 (by decide) ?_
        refine lv_istore_n (pc := 28) (lv' := [(1, .int ((x1 + q1) + (1 : Int32))), (3, .int q1), (0, .ref (ad 0)), (2, .int x2)]) hx hb dM_reserve_28 rfl hl (by decide) rfl (fun ls hl => ?_)
        refine lv_iinc (pc := 29) (v := (x2 + 1)) (k := 3) (lv' := [(2, .int (x2 + 1)), (1, .int ((x1 + q1) + (1 : Int32))), (3, .int q1), (0, .ref (ad 0))]) hx hb dM_reserve_29 hl rfl (j_inc _ (by decide)) (by decide) rfl (fun ls hl => ?_)
        refine lv_goto (pc := 32) (tgt := 4) hx hb dM_reserve_32 (by decide) ?_
        exact ih ((x1 + q1) + (1 : Int32)) (x2 + 1) _ (lv_sub hl [3, 1, 0] rfl) hw hf
set_option maxHeartbeats 4000000 in
set_option maxRecDepth 100000 in
theorem bM_reserve {p : Program} {l : Launch} {e : Env} {s : State} {m : MethodId} {args : Array Value} {below : List Frame} {meth : Method} {c : Code} {D : va_G} {ca : Nat → ClassId} {ad : Nat → Nat} {A : Nat → Prop} (hA : ∀ q, s.heap.size ≤ q → A q) (S : CallFix p m c cM_reserve 4 s args jall RM) (hN : mN A s) (hr : meth.sig.returnType = some .int) (hlk : meth.locks = false) (out : Int32) (σ : JS)  (ls : Array Slot) (hl : lv_has ls 4 [(0, .ref (ad 0))]) (hw : jH D (mT ca) (mC ca ad σ) A s.heap s.heap [] s) (hf : mM_reserve σ  = some out) : W p l e (headSpec wsM_reserve rmM_reserve).room s m args below meth c s.heap [] 0 0 (MQ below (jSi out) args s 0 0 (fun _ => False)) (F0 m 0 ls []) := by
  have hx := S.1
  have hb := S.2.1
  unfold mM_reserve at hf
  refine lv_iconst (pc := 0) (v := (0 : Int32)) hx hb dM_reserve_0 (by decide) ?_
  refine lv_istore_n (pc := 1) (lv' := [(1, .int (0 : Int32)), (0, .ref (ad 0))]) hx hb dM_reserve_1 rfl hl (by decide) rfl (fun ls hl => ?_)
  refine lv_iconst (pc := 2) (v := (0 : Int32)) hx hb dM_reserve_2 (by decide) ?_
  refine lv_istore_n (pc := 3) (lv' := [(2, .int (0 : Int32)), (1, .int (0 : Int32)), (0, .ref (ad 0))]) hx hb dM_reserve_3 rfl hl (by decide) rfl (fun ls hl => ?_)
  exact wmM_reserve_L4 hA S hN hr hlk out σ 999 (0 : Int32) (0 : Int32) _ (lv_sub hl [2, 1, 0] rfl) hw hf
set_option maxHeartbeats 4000000 in
set_option maxRecDepth 100000 in
theorem kM_reserve (l : Launch) (D : va_G) (ca : Nat → ClassId) (ad : Nat → Nat) (sz : Nat) (σ : JS)  (out : Int32) (hf : mM_reserve σ  = some out) : Met l yM_reserve wsM_reserve rmM_reserve (jPre D (mT ca) (mC ca ad σ) (mN (va_A (mC ca ad σ) sz)) sz [.ref (ad 0)]) (jSi out) 0 0 (fun _ => False) := by
  refine Met.ofW (cc := cM_reserve) (maxL := 4) (ret := some .int) (by decide) rfl ?_
  intro p e s m args below meth c s₁ B hml hv
  obtain ⟨rfl, hsz, hP, hK, hD0, hN⟩ := hv
  subst hsz
  have hl := lv_entry [.ref (ad 0)] (n := 4) (Nat.le_of_ble_eq_true rfl)
  rw [lg_entry_eq]
  generalize (lg_sl [.ref (ad 0)] ++ List.replicate (4 - (lg_sl [.ref (ad 0)]).length) Slot.unset).toArray = ls at hl ⊢
  exact bM_reserve (fun q h => Or.inr h) ⟨B.exec, B.bytes, hml, findClass_of_methodNamed B.named, fun w h => atoms_spec (ws := wsM_reserve) B.pre w (List.mem_cons_of_mem _ h)⟩ hN B.returns B.notSynchronized out σ  ls hl ⟨hP, hD0.self, va_S.rf, hK⟩ hf

def rmM_room : Room := { frames := 0, cells := 0, slots := 0, locals := 0 }
def mM_room (σ : JS)  : Option (Int32) :=
  if (120 : Int32) ≤ ((8 : Int32) * ((σ 100 3) + (6 : Int32))) then
  (some ((120 : Int32) - (σ 100 2)))
  else
  (some (((8 : Int32) * ((σ 100 3) + (6 : Int32))) - (σ 100 2)))
set_option maxHeartbeats 4000000 in
set_option maxRecDepth 100000 in
theorem bM_room {p : Program} {l : Launch} {e : Env} {s : State} {m : MethodId} {args : Array Value} {below : List Frame} {meth : Method} {c : Code} {D : va_G} {ca : Nat → ClassId} {ad : Nat → Nat} {A : Nat → Prop} (hA : ∀ q, s.heap.size ≤ q → A q) (S : CallFix p m c cM_room 2 s args jall RM) (hN : mN A s) (hr : meth.sig.returnType = some .int) (hlk : meth.locks = false) (out : Int32) (σ : JS)  (ls : Array Slot) (hl : lv_has ls 2 [(0, .ref (ad 0))]) (hw : jH D (mT ca) (mC ca ad σ) A s.heap s.heap [] s) (hf : mM_room σ  = some out) : W p l e (headSpec wsM_room rmM_room).room s m args below meth c s.heap [] 0 0 (MQ below (jSi out) args s 0 0 (fun _ => False)) (F0 m 0 ls []) := by
  have hx := S.1
  have hb := S.2.1
  unfold mM_room at hf
  refine lv_bipush (pc := 0) (v := (8 : Int32)) hx hb dM_room_0 (by decide) ?_
  refine lv_aload_n (pc := 2) hx hb dM_room_2 rfl (lv_at hl 0 rfl) ?_
  refine j_get (pc := 3) (v := .int (σ 100 3)) S hw inM 0 6 6 mg_0 rfl (by decide) k_602 rfl dM_room_3 ?_
  refine lv_bipush (pc := 6) (v := (6 : Int32)) hx hb dM_room_6 (by decide) ?_
  refine lv_iadd (pc := 8) hx hb dM_room_8 ?_
  refine lv_imul (pc := 9) hx hb dM_room_9 ?_
  refine lv_istore_n (pc := 10) (lv' := [(1, .int ((8 : Int32) * ((σ 100 3) + (6 : Int32)))), (0, .ref (ad 0))]) hx hb dM_room_10 rfl hl (by decide) rfl (fun ls hl => ?_)
  refine lv_iload_n (pc := 11) hx hb dM_room_11 rfl (lv_at hl 0 rfl) ?_
  refine lv_bipush (pc := 12) (v := (120 : Int32)) hx hb dM_room_12 (by decide) ?_
  refine lv_icmp_ge (pc := 14) (tgt := 21) hx hb dM_room_14 (by decide) (fun hc => ?_) (fun hc => ?_)
  · replace hf := jit hf hc
    refine lv_bipush (pc := 21) (v := (120 : Int32)) hx hb dM_room_21 (by decide) ?_
    refine lv_aload_n (pc := 23) hx hb dM_room_23 rfl (lv_at hl 1 rfl) ?_
    refine j_get (pc := 24) (v := .int (σ 100 2)) S hw inM 0 6 5 mg_0 rfl (by decide) k_601 rfl dM_room_24 ?_
    refine lv_isub (pc := 27) hx hb dM_room_27 ?_
    obtain rfl := jsm hf
    exact j_ipr (pc := 28) S hr hlk dM_room_28
  · replace hf := jif hf hc
    refine lv_iload_n (pc := 17) hx hb dM_room_17 rfl (lv_at hl 0 rfl) ?_
    refine lv_goto (pc := 18) (tgt := 23) hx hb dM_room_18 (by decide) ?_
    refine lv_aload_n (pc := 23) hx hb dM_room_23 rfl (lv_at hl 1 rfl) ?_
    refine j_get (pc := 24) (v := .int (σ 100 2)) S hw inM 0 6 5 mg_0 rfl (by decide) k_601 rfl dM_room_24 ?_
    refine lv_isub (pc := 27) hx hb dM_room_27 ?_
    obtain rfl := jsm hf
    exact j_ipr (pc := 28) S hr hlk dM_room_28
set_option maxHeartbeats 4000000 in
set_option maxRecDepth 100000 in
theorem kM_room (l : Launch) (D : va_G) (ca : Nat → ClassId) (ad : Nat → Nat) (sz : Nat) (σ : JS)  (out : Int32) (hf : mM_room σ  = some out) : Met l yM_room wsM_room rmM_room (jPre D (mT ca) (mC ca ad σ) (mN (va_A (mC ca ad σ) sz)) sz [.ref (ad 0)]) (jSi out) 0 0 (fun _ => False) := by
  refine Met.ofW (cc := cM_room) (maxL := 2) (ret := some .int) (by decide) rfl ?_
  intro p e s m args below meth c s₁ B hml hv
  obtain ⟨rfl, hsz, hP, hK, hD0, hN⟩ := hv
  subst hsz
  have hl := lv_entry [.ref (ad 0)] (n := 2) (Nat.le_of_ble_eq_true rfl)
  rw [lg_entry_eq]
  generalize (lg_sl [.ref (ad 0)] ++ List.replicate (2 - (lg_sl [.ref (ad 0)]).length) Slot.unset).toArray = ls at hl ⊢
  exact bM_room (fun q h => Or.inr h) ⟨B.exec, B.bytes, hml, findClass_of_methodNamed B.named, fun w h => atoms_spec (ws := wsM_room) B.pre w (List.mem_cons_of_mem _ h)⟩ hN B.returns B.notSynchronized out σ  ls hl ⟨hP, hD0.self, va_S.rf, hK⟩ hf

