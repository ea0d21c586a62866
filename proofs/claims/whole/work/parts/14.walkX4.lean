def rmJ_isKept : Room := { frames := 1, cells := 0, slots := 0, locals := 20 }
def mJ_isKept (σ : JS) (x1 : Int32) : Option (Int32) :=
  jbn (mJ_startOfOldest σ ) fun q1 =>
  if x1 < q1 then
  (some (0 : Int32))
  else
  (if (σ 100 0) < x1 then
  (some (0 : Int32))
  else
  (some (1 : Int32)))
set_option maxHeartbeats 4000000 in
set_option maxRecDepth 100000 in
theorem bJ_isKept {p : Program} {l : Launch} {e : Env} {s : State} {m : MethodId} {args : Array Value} {below : List Frame} {meth : Method} {c : Code} {D : va_G} {ca : Nat → ClassId} {ad : Nat → Nat} {A : Nat → Prop} (hA : ∀ q, s.heap.size ≤ q → A q) (S : CallFix p m c cJ_isKept 2 s args jall RJ) (hN : xN A s) (hr : meth.sig.returnType = some .boolean) (hlk : meth.locks = false) (out : Int32) (σ : JS) (x1 : Int32) (ls : Array Slot) (hl : lv_has ls 2 [(0, .ref (ad 1)), (1, .int x1)]) (hw : jH D (xT ca) (xC ca ad σ) A s.heap s.heap [] s) (hf : mJ_isKept σ x1 = some out) : W p l e (headSpec wsJ_isKept rmJ_isKept).room s m args below meth c s.heap [] 0 0 (MQ below (jSi out) args s 0 0 (fun _ => False)) (F0 m 0 ls []) := by
  have hx := S.1
  have hb := S.2.1
  unfold mJ_isKept at hf
  refine lv_iload_n (pc := 0) hx hb dJ_isKept_0 rfl (lv_at hl 1 rfl) ?_
  refine lv_aload_n (pc := 1) hx hb dJ_isKept_1 rfl (lv_at hl 0 rfl) ?_
  have hg := jbn_e hf; clear hf; obtain ⟨q1, h2, hf⟩ := hg
  refine j_cpi (pc := 2) (v := q1) (va_runV (As := []) (rest := [.int x1]) S (kJ_startOfOldest l D ca ad _ σ  q1 h2) (cwV 0 S.2.2.2.2 (jgV k_243 k_244 k_245 k_2 k_246) rfl rfl rfl (by decide +kernel) ⟨Nat.le_of_ble_eq_true rfl, Nat.le_of_ble_eq_true rfl⟩) (j_preV (As := []) hw xN_b (xN_to hN hw hA) rfl xg_1) rfl rfl hl.1 rfl (lv_room (Nat.le_of_ble_eq_true rfl)) dJ_isKept_2 ⟨Nat.le_of_ble_eq_true rfl, Nat.le_of_ble_eq_true rfl⟩) ?_
  refine lv_icmp_lt (pc := 5) (tgt := 20) hx hb dJ_isKept_5 (by decide) (fun hc => ?_) (fun hc => ?_)
  · replace hf := jit hf hc
    refine lv_iconst (pc := 20) (v := (0 : Int32)) hx hb dJ_isKept_20 (by decide) ?_
    obtain rfl := jsm hf
    exact j_zpr (pc := 21) S hr hlk (Or.inl rfl) dJ_isKept_21
  · replace hf := jif hf hc
    refine lv_iload_n (pc := 8) hx hb dJ_isKept_8 rfl (lv_at hl 1 rfl) ?_
    refine lv_aload_n (pc := 9) hx hb dJ_isKept_9 rfl (lv_at hl 0 rfl) ?_
    refine j_get (pc := 10) (v := .int (σ 100 0)) S hw inJ 1 1 9 xg_1 rfl (by decide) k_49 rfl dJ_isKept_10 ?_
    refine lv_icmp_gt (pc := 13) (tgt := 20) hx hb dJ_isKept_13 (by decide) (fun hc => ?_) (fun hc => ?_)
    · replace hf := jit hf hc
      refine lv_iconst (pc := 20) (v := (0 : Int32)) hx hb dJ_isKept_20 (by decide) ?_
      obtain rfl := jsm hf
      exact j_zpr (pc := 21) S hr hlk (Or.inl rfl) dJ_isKept_21
    · replace hf := jif hf hc
      refine lv_iconst (pc := 16) (v := (1 : Int32)) hx hb dJ_isKept_16 (by decide) ?_
      refine lv_goto (pc := 17) (tgt := 21) hx hb dJ_isKept_17 (by decide) ?_
      obtain rfl := jsm hf
      exact j_zpr (pc := 21) S hr hlk (Or.inr rfl) dJ_isKept_21
set_option maxHeartbeats 4000000 in
set_option maxRecDepth 100000 in
theorem kJ_isKept (l : Launch) (D : va_G) (ca : Nat → ClassId) (ad : Nat → Nat) (sz : Nat) (σ : JS) (x1 : Int32) (out : Int32) (hf : mJ_isKept σ x1 = some out) : Met l yJ_isKept wsJ_isKept rmJ_isKept (jPre D (xT ca) (xC ca ad σ) (xN (va_A (xC ca ad σ) sz)) sz [.ref (ad 1), .int x1]) (jSi out) 0 0 (fun _ => False) := by
  refine Met.ofW (cc := cJ_isKept) (maxL := 2) (ret := some .boolean) (by decide) rfl ?_
  intro p e s m args below meth c s₁ B hml hv
  obtain ⟨rfl, hsz, hP, hK, hD0, hN⟩ := hv
  subst hsz
  have hl := lv_entry [.ref (ad 1), .int x1] (n := 2) (Nat.le_of_ble_eq_true rfl)
  rw [lg_entry_eq]
  generalize (lg_sl [.ref (ad 1), .int x1] ++ List.replicate (2 - (lg_sl [.ref (ad 1), .int x1]).length) Slot.unset).toArray = ls at hl ⊢
  exact bJ_isKept (fun q h => Or.inr h) ⟨B.exec, B.bytes, hml, findClass_of_methodNamed B.named, fun w h => atoms_spec (ws := wsJ_isKept) B.pre w (List.mem_cons_of_mem _ h)⟩ hN B.returns B.notSynchronized out σ x1 ls hl ⟨hP, hD0.self, va_S.rf, hK⟩ hf

def rmJ_keepsChangesOf : Room := { frames := 2, cells := 0, slots := 0, locals := 42 }
def mJ_keepsChangesOf_L5 (σ : JS) (x1 : Int32) (x3 : Int32) : Nat → Int32 → Option (Int32)
  | 0, _ => none
  | n + 1, x4 =>
    if x3 < x4 then
    (some (1 : Int32))
    else
    (jbn (mJ_isChangeOf σ x1 x4) fun q1 =>
    if q1 = 0 then
    (mJ_keepsChangesOf_L5 σ x1 x3 n (x4 + 1))
    else
    (jbn (mJ_isKept σ x4) fun q3 =>
    if q3 = 0 then
    (some (0 : Int32))
    else
    (mJ_keepsChangesOf_L5 σ x1 x3 n (x4 + 1))))
def mJ_keepsChangesOf (σ : JS) (x1 : Int32) (x2 : Int32) (x3 : Int32) : Option (Int32) :=
  mJ_keepsChangesOf_L5 σ x1 x3 999 (x2 + (1 : Int32))
set_option maxHeartbeats 4000000 in
set_option maxRecDepth 100000 in
theorem wmJ_keepsChangesOf_L5 {p : Program} {l : Launch} {e : Env} {s : State} {m : MethodId} {args : Array Value} {below : List Frame} {meth : Method} {c : Code} {D : va_G} {ca : Nat → ClassId} {ad : Nat → Nat} {A : Nat → Prop} (hA : ∀ q, s.heap.size ≤ q → A q) (S : CallFix p m c cJ_keepsChangesOf 5 s args jall RJ) (hN : xN A s) (hr : meth.sig.returnType = some .boolean) (hlk : meth.locks = false) (out : Int32) (σ : JS) (x1 : Int32) (x3 : Int32) : ∀ (n : Nat) (x4 : Int32) (ls : Array Slot) , lv_has ls 5 [(0, .ref (ad 1)), (1, .int x1), (3, .int x3), (4, .int x4)] → jH D (xT ca) (xC ca ad σ) A s.heap s.heap [] s → mJ_keepsChangesOf_L5 σ x1 x3 n x4 = some out → W p l e (headSpec wsJ_keepsChangesOf rmJ_keepsChangesOf).room s m args below meth c s.heap [] 0 0 (MQ below (jSi out) args s 0 0 (fun _ => False)) (F0 m 5 ls []) := by
  have hx := S.1
  have hb := S.2.1
  intro n
  induction n with
  | zero => intro x4 ls hl hw hf; cases hf
  | succ n ih =>
    intro x4 ls hl hw hf
    rw [mJ_keepsChangesOf_L5] at hf
    refine lv_iload (pc := 5) hx hb dJ_keepsChangesOf_5 (lv_at hl 3 rfl) ?_
    refine lv_iload_n (pc := 7) hx hb dJ_keepsChangesOf_7 rfl (lv_at hl 2 rfl) ?_
    refine lv_icmp_gt (pc := 8) (tgt := 38) hx hb dJ_keepsChangesOf_8 (by decide) (fun hc => ?_) (fun hc => ?_)
    · replace hf := jit hf hc
      refine lv_iconst (pc := 38) (v := (1 : Int32)) hx hb dJ_keepsChangesOf_38 (by decide) ?_
      obtain rfl := jsm hf
      exact j_zpr (pc := 39) S hr hlk (Or.inr rfl) dJ_keepsChangesOf_39
    · replace hf := jif hf hc
      refine lv_aload_n (pc := 11) hx hb dJ_keepsChangesOf_11 rfl (lv_at hl 0 rfl) ?_
      refine lv_iload_n (pc := 12) hx hb dJ_keepsChangesOf_12 rfl (lv_at hl 1 rfl) ?_
      refine lv_iload (pc := 13) hx hb dJ_keepsChangesOf_13 (lv_at hl 3 rfl) ?_
      have hg := jbn_e hf; clear hf; obtain ⟨q1, h2, hf⟩ := hg
      refine j_cpi (pc := 15) (v := q1) (va_runV (As := [.int x1, .int x4]) (rest := []) S (kJ_isChangeOf l D ca ad _ σ x1 x4 q1 h2) (cwV 2 S.2.2.2.2 (jgV k_490 k_491 k_492 k_2 k_493) rfl rfl rfl (by decide +kernel) ⟨Nat.le_of_ble_eq_true rfl, Nat.le_of_ble_eq_true rfl⟩) (j_preV (As := [.int x1, .int x4]) hw xN_b (xN_to hN hw hA) rfl xg_1) rfl rfl hl.1 rfl (lv_room (Nat.le_of_ble_eq_true rfl)) dJ_keepsChangesOf_15 ⟨Nat.le_of_ble_eq_true rfl, Nat.le_of_ble_eq_true rfl⟩) ?_
      refine lv_if_eq (pc := 18) (tgt := 32) hx hb dJ_keepsChangesOf_18 (by decide) (fun hc => ?_) (fun hc => ?_)
      · replace hf := jit hf hc
        refine lv_iinc (pc := 32) (v := (x4 + 1)) (k := 3) (lv' := [(4, .int (x4 + 1)), (0, .ref (ad 1)), (1, .int x1), (3, .int x3)]) hx hb dJ_keepsChangesOf_32 hl rfl (j_inc _ (by decide)) (by decide) rfl (fun ls hl => ?_)
        refine lv_goto (pc := 35) (tgt := 5) hx hb dJ_keepsChangesOf_35 (by decide) ?_
        exact ih (x4 + 1) _ (lv_sub hl [1, 2, 3, 0] rfl) hw hf
      · replace hf := jif hf hc
        refine lv_aload_n (pc := 21) hx hb dJ_keepsChangesOf_21 rfl (lv_at hl 0 rfl) ?_
        refine lv_iload (pc := 22) hx hb dJ_keepsChangesOf_22 (lv_at hl 3 rfl) ?_
        have hg := jbn_e hf; clear hf; obtain ⟨q3, h4, hf⟩ := hg
        refine j_cpi (pc := 24) (v := q3) (va_runV (As := [.int x4]) (rest := []) S (kJ_isKept l D ca ad _ σ x4 q3 h4) (cwV 1 S.2.2.2.2 (jgV k_494 k_240 k_241 k_2 k_242) rfl rfl rfl (by decide +kernel) ⟨Nat.le_of_ble_eq_true rfl, Nat.le_of_ble_eq_true rfl⟩) (j_preV (As := [.int x4]) hw xN_b (xN_to hN hw hA) rfl xg_1) rfl rfl hl.1 rfl (lv_room (Nat.le_of_ble_eq_true rfl)) dJ_keepsChangesOf_24 ⟨Nat.le_of_ble_eq_true rfl, Nat.le_of_ble_eq_true rfl⟩) ?_
        refine lv_if_ne (pc := 27) (tgt := 32) hx hb dJ_keepsChangesOf_27 (by decide) (fun hc => ?_) (fun hc => ?_)
        · replace hf := jif hf hc
          refine lv_iinc (pc := 32) (v := (x4 + 1)) (k := 3) (lv' := [(4, .int (x4 + 1)), (0, .ref (ad 1)), (1, .int x1), (3, .int x3)]) hx hb dJ_keepsChangesOf_32 hl rfl (j_inc _ (by decide)) (by decide) rfl (fun ls hl => ?_)
          refine lv_goto (pc := 35) (tgt := 5) hx hb dJ_keepsChangesOf_35 (by decide) ?_
          exact ih (x4 + 1) _ (lv_sub hl [1, 2, 3, 0] rfl) hw hf
        · replace hf := jit hf hc
          refine lv_iconst (pc := 30) (v := (0 : Int32)) hx hb dJ_keepsChangesOf_30 (by decide) ?_
          obtain rfl := jsm hf
          exact j_zpr (pc := 31) S hr hlk (Or.inl rfl) dJ_keepsChangesOf_31
set_option maxHeartbeats 4000000 in
set_option maxRecDepth 100000 in
theorem bJ_keepsChangesOf {p : Program} {l : Launch} {e : Env} {s : State} {m : MethodId} {args : Array Value} {below : List Frame} {meth : Method} {c : Code} {D : va_G} {ca : Nat → ClassId} {ad : Nat → Nat} {A : Nat → Prop} (hA : ∀ q, s.heap.size ≤ q → A q) (S : CallFix p m c cJ_keepsChangesOf 5 s args jall RJ) (hN : xN A s) (hr : meth.sig.returnType = some .boolean) (hlk : meth.locks = false) (out : Int32) (σ : JS) (x1 : Int32) (x2 : Int32) (x3 : Int32) (ls : Array Slot) (hl : lv_has ls 5 [(0, .ref (ad 1)), (1, .int x1), (2, .int x2), (3, .int x3)]) (hw : jH D (xT ca) (xC ca ad σ) A s.heap s.heap [] s) (hf : mJ_keepsChangesOf σ x1 x2 x3 = some out) : W p l e (headSpec wsJ_keepsChangesOf rmJ_keepsChangesOf).room s m args below meth c s.heap [] 0 0 (MQ below (jSi out) args s 0 0 (fun _ => False)) (F0 m 0 ls []) := by
  have hx := S.1
  have hb := S.2.1
  unfold mJ_keepsChangesOf at hf
  refine lv_iload_n (pc := 0) hx hb dJ_keepsChangesOf_0 rfl (lv_at hl 2 rfl) ?_
  refine lv_iconst (pc := 1) (v := (1 : Int32)) hx hb dJ_keepsChangesOf_1 (by decide) ?_
  refine lv_iadd (pc := 2) hx hb dJ_keepsChangesOf_2 ?_
  refine lv_istore (pc := 3) (lv' := [(4, .int (x2 + (1 : Int32))), (0, .ref (ad 1)), (1, .int x1), (2, .int x2), (3, .int x3)]) hx hb dJ_keepsChangesOf_3 hl (by decide) rfl (fun ls hl => ?_)
  exact wmJ_keepsChangesOf_L5 hA S hN hr hlk out σ x1 x3 999 (x2 + (1 : Int32)) _ (lv_sub hl [1, 2, 4, 0] rfl) hw hf
set_option maxHeartbeats 4000000 in
set_option maxRecDepth 100000 in
theorem kJ_keepsChangesOf (l : Launch) (D : va_G) (ca : Nat → ClassId) (ad : Nat → Nat) (sz : Nat) (σ : JS) (x1 : Int32) (x2 : Int32) (x3 : Int32) (out : Int32) (hf : mJ_keepsChangesOf σ x1 x2 x3 = some out) : Met l yJ_keepsChangesOf wsJ_keepsChangesOf rmJ_keepsChangesOf (jPre D (xT ca) (xC ca ad σ) (xN (va_A (xC ca ad σ) sz)) sz [.ref (ad 1), .int x1, .int x2, .int x3]) (jSi out) 0 0 (fun _ => False) := by
  refine Met.ofW (cc := cJ_keepsChangesOf) (maxL := 5) (ret := some .boolean) (by decide) rfl ?_
  intro p e s m args below meth c s₁ B hml hv
  obtain ⟨rfl, hsz, hP, hK, hD0, hN⟩ := hv
  subst hsz
  have hl := lv_entry [.ref (ad 1), .int x1, .int x2, .int x3] (n := 5) (Nat.le_of_ble_eq_true rfl)
  rw [lg_entry_eq]
  generalize (lg_sl [.ref (ad 1), .int x1, .int x2, .int x3] ++ List.replicate (5 - (lg_sl [.ref (ad 1), .int x1, .int x2, .int x3]).length) Slot.unset).toArray = ls at hl ⊢
  exact bJ_keepsChangesOf (fun q h => Or.inr h) ⟨B.exec, B.bytes, hml, findClass_of_methodNamed B.named, fun w h => atoms_spec (ws := wsJ_keepsChangesOf) B.pre w (List.mem_cons_of_mem _ h)⟩ hN B.returns B.notSynchronized out σ x1 x2 x3 ls hl ⟨hP, hD0.self, va_S.rf, hK⟩ hf

def rmH_canApply : Room := { frames := 3, cells := 0, slots := 0, locals := 66 }
def mH_canApply (σ : JS) (x1 : Int32) (x2 : Int32) : Option (Int32) :=
  jrd σ 27 3 x1 fun v1 =>
  if v1 = (-1 : Int32) then
  (some (0 : Int32))
  else
  (if x2 ≤ v1 then
  (some (0 : Int32))
  else
  (jrd σ 28 3 x1 fun v4 =>
  if v4 ≤ x2 then
  (some (0 : Int32))
  else
  (jbn (mJ_isCycleOn σ x1) fun q7 =>
  if q7 = 0 then
  (jbn (mJ_isBoundary σ x1 x2) fun q9 =>
  if q9 = 0 then
  (some (0 : Int32))
  else
  (jbn (mJ_keepsChangesOf σ x1 v1 x2) fun q11 =>
  if q11 = 0 then
  (some (0 : Int32))
  else
  (some (1 : Int32))))
  else
  (some (0 : Int32)))))
set_option maxHeartbeats 4000000 in
set_option maxRecDepth 100000 in
theorem bH_canApply {p : Program} {l : Launch} {e : Env} {s : State} {m : MethodId} {args : Array Value} {below : List Frame} {meth : Method} {c : Code} {D : va_G} {ca : Nat → ClassId} {ad : Nat → Nat} {A : Nat → Prop} (hA : ∀ q, s.heap.size ≤ q → A q) (S : CallFix p m c cH_canApply 4 s args jall RH) (hN : xN A s) (hr : meth.sig.returnType = some .boolean) (hlk : meth.locks = false) (out : Int32) (σ : JS) (x1 : Int32) (x2 : Int32) (ls : Array Slot) (hl : lv_has ls 4 [(0, .ref (ad 0)), (1, .int x1), (2, .int x2)]) (hw : jH D (xT ca) (xC ca ad σ) A s.heap s.heap [] s) (hf : mH_canApply σ x1 x2 = some out) : W p l e (headSpec wsH_canApply rmH_canApply).room s m args below meth c s.heap [] 0 0 (MQ below (jSi out) args s 0 0 (fun _ => False)) (F0 m 0 ls []) := by
  have hx := S.1
  have hb := S.2.1
  unfold mH_canApply at hf
  refine lv_aload_n (pc := 0) hx hb dH_canApply_0 rfl (lv_at hl 0 rfl) ?_
  refine j_get (pc := 1) (v := .ref (ad 27)) S hw inH 0 0 6 xg_0 rfl (by decide) k_168 rfl dH_canApply_1 ?_
  refine lv_iload_n (pc := 4) hx hb dH_canApply_4 rfl (lv_at hl 1 rfl) ?_
  have hg := jrd_e hf; clear hf; obtain ⟨h2, v1, e3, hf⟩ := hg
  refine j_iald (pc := 5) S hw 27 21 xg_27 xt_27 h2 e3 dH_canApply_5 ?_
  refine lv_istore_n (pc := 6) (lv' := [(3, .int v1), (0, .ref (ad 0)), (1, .int x1), (2, .int x2)]) hx hb dH_canApply_6 rfl hl (by decide) rfl (fun ls hl => ?_)
  refine lv_iload_n (pc := 7) hx hb dH_canApply_7 rfl (lv_at hl 0 rfl) ?_
  refine lv_iconst (pc := 8) (v := (-1 : Int32)) hx hb dH_canApply_8 (by decide) ?_
  refine lv_icmp_eq (pc := 9) (tgt := 67) hx hb dH_canApply_9 (by decide) (fun hc => ?_) (fun hc => ?_)
  · replace hf := jit hf hc
    refine lv_iconst (pc := 67) (v := (0 : Int32)) hx hb dH_canApply_67 (by decide) ?_
    obtain rfl := jsm hf
    exact j_zpr (pc := 68) S hr hlk (Or.inl rfl) dH_canApply_68
  · replace hf := jif hf hc
    refine lv_iload_n (pc := 12) hx hb dH_canApply_12 rfl (lv_at hl 3 rfl) ?_
    refine lv_iload_n (pc := 13) hx hb dH_canApply_13 rfl (lv_at hl 0 rfl) ?_
    refine lv_icmp_le (pc := 14) (tgt := 67) hx hb dH_canApply_14 (by decide) (fun hc => ?_) (fun hc => ?_)
    · replace hf := jit hf hc
      refine lv_iconst (pc := 67) (v := (0 : Int32)) hx hb dH_canApply_67 (by decide) ?_
      obtain rfl := jsm hf
      exact j_zpr (pc := 68) S hr hlk (Or.inl rfl) dH_canApply_68
    · replace hf := jif hf hc
      refine lv_iload_n (pc := 17) hx hb dH_canApply_17 rfl (lv_at hl 3 rfl) ?_
      refine lv_aload_n (pc := 18) hx hb dH_canApply_18 rfl (lv_at hl 1 rfl) ?_
      refine j_get (pc := 19) (v := .ref (ad 28)) S hw inH 0 0 7 xg_0 rfl (by decide) k_169 rfl dH_canApply_19 ?_
      refine lv_iload_n (pc := 22) hx hb dH_canApply_22 rfl (lv_at hl 2 rfl) ?_
      have hg := jrd_e hf; clear hf; obtain ⟨h5, v4, e6, hf⟩ := hg
      refine j_iald (pc := 23) S hw 28 22 xg_28 xt_28 h5 e6 dH_canApply_23 ?_
      refine lv_icmp_ge (pc := 24) (tgt := 67) hx hb dH_canApply_24 (by decide) (fun hc => ?_) (fun hc => ?_)
      · replace hf := jit hf hc
        refine lv_iconst (pc := 67) (v := (0 : Int32)) hx hb dH_canApply_67 (by decide) ?_
        obtain rfl := jsm hf
        exact j_zpr (pc := 68) S hr hlk (Or.inl rfl) dH_canApply_68
      · replace hf := jif hf hc
        refine lv_aload_n (pc := 27) hx hb dH_canApply_27 rfl (lv_at hl 1 rfl) ?_
        refine j_get (pc := 28) (v := .ref (ad 1)) S hw inH 0 0 0 xg_0 rfl (by decide) k_162 rfl dH_canApply_28 ?_
        refine lv_iload_n (pc := 31) hx hb dH_canApply_31 rfl (lv_at hl 2 rfl) ?_
        have hg := jbn_e hf; clear hf; obtain ⟨q7, h8, hf⟩ := hg
        refine j_cpi (pc := 32) (v := q7) (va_runV (As := [.int x1]) (rest := []) S (kJ_isCycleOn l D ca ad _ σ x1 q7 h8) (cwV 1 S.2.2.2.2 (jgV k_444 k_445 k_446 k_2 k_447) rfl rfl rfl (by decide +kernel) ⟨Nat.le_of_ble_eq_true rfl, Nat.le_of_ble_eq_true rfl⟩) (j_preV (As := [.int x1]) hw xN_b (xN_to hN hw hA) rfl xg_1) rfl rfl hl.1 rfl (lv_room (Nat.le_of_ble_eq_true rfl)) dH_canApply_32 ⟨Nat.le_of_ble_eq_true rfl, Nat.le_of_ble_eq_true rfl⟩) ?_
        refine lv_if_ne (pc := 35) (tgt := 67) hx hb dH_canApply_35 (by decide) (fun hc => ?_) (fun hc => ?_)
        · replace hf := jif hf hc
          refine lv_iconst (pc := 67) (v := (0 : Int32)) hx hb dH_canApply_67 (by decide) ?_
          obtain rfl := jsm hf
          exact j_zpr (pc := 68) S hr hlk (Or.inl rfl) dH_canApply_68
        · replace hf := jit hf hc
          refine lv_aload_n (pc := 38) hx hb dH_canApply_38 rfl (lv_at hl 1 rfl) ?_
          refine j_get (pc := 39) (v := .ref (ad 1)) S hw inH 0 0 0 xg_0 rfl (by decide) k_162 rfl dH_canApply_39 ?_
          refine lv_iload_n (pc := 42) hx hb dH_canApply_42 rfl (lv_at hl 2 rfl) ?_
          refine lv_iload_n (pc := 43) hx hb dH_canApply_43 rfl (lv_at hl 3 rfl) ?_
          have hg := jbn_e hf; clear hf; obtain ⟨q9, h10, hf⟩ := hg
          refine j_cpi (pc := 44) (v := q9) (va_runV (As := [.int x1, .int x2]) (rest := []) S (kJ_isBoundary l D ca ad _ σ x1 x2 q9 h10) (cwV 2 S.2.2.2.2 (jgV k_231 k_232 k_233 k_2 k_234) rfl rfl rfl (by decide +kernel) ⟨Nat.le_of_ble_eq_true rfl, Nat.le_of_ble_eq_true rfl⟩) (j_preV (As := [.int x1, .int x2]) hw xN_b (xN_to hN hw hA) rfl xg_1) rfl rfl hl.1 rfl (lv_room (Nat.le_of_ble_eq_true rfl)) dH_canApply_44 ⟨Nat.le_of_ble_eq_true rfl, Nat.le_of_ble_eq_true rfl⟩) ?_
          refine lv_if_eq (pc := 47) (tgt := 67) hx hb dH_canApply_47 (by decide) (fun hc => ?_) (fun hc => ?_)
          · replace hf := jit hf hc
            refine lv_iconst (pc := 67) (v := (0 : Int32)) hx hb dH_canApply_67 (by decide) ?_
            obtain rfl := jsm hf
            exact j_zpr (pc := 68) S hr hlk (Or.inl rfl) dH_canApply_68
          · replace hf := jif hf hc
            refine lv_aload_n (pc := 50) hx hb dH_canApply_50 rfl (lv_at hl 1 rfl) ?_
            refine j_get (pc := 51) (v := .ref (ad 1)) S hw inH 0 0 0 xg_0 rfl (by decide) k_162 rfl dH_canApply_51 ?_
            refine lv_iload_n (pc := 54) hx hb dH_canApply_54 rfl (lv_at hl 2 rfl) ?_
            refine lv_iload_n (pc := 55) hx hb dH_canApply_55 rfl (lv_at hl 0 rfl) ?_
            refine lv_iload_n (pc := 56) hx hb dH_canApply_56 rfl (lv_at hl 3 rfl) ?_
            have hg := jbn_e hf; clear hf; obtain ⟨q11, h12, hf⟩ := hg
            refine j_cpi (pc := 57) (v := q11) (va_runV (As := [.int x1, .int v1, .int x2]) (rest := []) S (kJ_keepsChangesOf l D ca ad _ σ x1 v1 x2 q11 h12) (cwV 3 S.2.2.2.2 (jgV k_486 k_487 k_488 k_2 k_489) rfl rfl rfl (by decide +kernel) ⟨Nat.le_of_ble_eq_true rfl, Nat.le_of_ble_eq_true rfl⟩) (j_preV (As := [.int x1, .int v1, .int x2]) hw xN_b (xN_to hN hw hA) rfl xg_1) rfl rfl hl.1 rfl (lv_room (Nat.le_of_ble_eq_true rfl)) dH_canApply_57 ⟨Nat.le_of_ble_eq_true rfl, Nat.le_of_ble_eq_true rfl⟩) ?_
            refine lv_if_eq (pc := 60) (tgt := 67) hx hb dH_canApply_60 (by decide) (fun hc => ?_) (fun hc => ?_)
            · replace hf := jit hf hc
              refine lv_iconst (pc := 67) (v := (0 : Int32)) hx hb dH_canApply_67 (by decide) ?_
              obtain rfl := jsm hf
              exact j_zpr (pc := 68) S hr hlk (Or.inl rfl) dH_canApply_68
            · replace hf := jif hf hc
              refine lv_iconst (pc := 63) (v := (1 : Int32)) hx hb dH_canApply_63 (by decide) ?_
              refine lv_goto (pc := 64) (tgt := 68) hx hb dH_canApply_64 (by decide) ?_
              obtain rfl := jsm hf
              exact j_zpr (pc := 68) S hr hlk (Or.inr rfl) dH_canApply_68
set_option maxHeartbeats 4000000 in
set_option maxRecDepth 100000 in
theorem kH_canApply (l : Launch) (D : va_G) (ca : Nat → ClassId) (ad : Nat → Nat) (sz : Nat) (σ : JS) (x1 : Int32) (x2 : Int32) (out : Int32) (hf : mH_canApply σ x1 x2 = some out) : Met l yH_canApply wsH_canApply rmH_canApply (jPre D (xT ca) (xC ca ad σ) (xN (va_A (xC ca ad σ) sz)) sz [.ref (ad 0), .int x1, .int x2]) (jSi out) 0 0 (fun _ => False) := by
  refine Met.ofW (cc := cH_canApply) (maxL := 4) (ret := some .boolean) (by decide) rfl ?_
  intro p e s m args below meth c s₁ B hml hv
  obtain ⟨rfl, hsz, hP, hK, hD0, hN⟩ := hv
  subst hsz
  have hl := lv_entry [.ref (ad 0), .int x1, .int x2] (n := 4) (Nat.le_of_ble_eq_true rfl)
  rw [lg_entry_eq]
  generalize (lg_sl [.ref (ad 0), .int x1, .int x2] ++ List.replicate (4 - (lg_sl [.ref (ad 0), .int x1, .int x2]).length) Slot.unset).toArray = ls at hl ⊢
  exact bH_canApply (fun q h => Or.inr h) ⟨B.exec, B.bytes, hml, findClass_of_methodNamed B.named, fun w h => atoms_spec (ws := wsH_canApply) B.pre w (List.mem_cons_of_mem _ h)⟩ hN B.returns B.notSynchronized out σ x1 x2 ls hl ⟨hP, hD0.self, va_S.rf, hK⟩ hf

def rmH_wantWhatIs : Room := { frames := 1, cells := 0, slots := 0, locals := 21 }
def mH_wantWhatIs (σ : JS) (x1 : Int32) : Option (JS) :=
  jbn (mH_cellOf σ x1 (0 : Int32)) fun q1 =>
  jcp σ 15 24 29 8 q1 (0 : Int32) (8 : Int32) fun σ3 =>
  some σ3
set_option maxHeartbeats 4000000 in
set_option maxRecDepth 100000 in
theorem bH_wantWhatIs {p : Program} {l : Launch} {e : Env} {s : State} {m : MethodId} {args : Array Value} {below : List Frame} {meth : Method} {c : Code} {D : va_G} {ca : Nat → ClassId} {ad : Nat → Nat} {A : Nat → Prop} (hA : ∀ q, s.heap.size ≤ q → A q) (S : CallFix p m c cH_wantWhatIs 2 s args jall RH) (hN : xN A s) (hr : meth.sig.returnType = none) (hlk : meth.locks = false) (out : JS) (σ : JS) (x1 : Int32) (ls : Array Slot) (hl : lv_has ls 2 [(0, .ref (ad 0)), (1, .int x1)]) (hw : jH D (xT ca) (xC ca ad σ) A s.heap s.heap [] s) (hf : mH_wantWhatIs σ x1 = some out) : W p l e (headSpec wsH_wantWhatIs rmH_wantWhatIs).room s m args below meth c s.heap [] 0 0 (MQ below (jQv D (xT ca) (xC ca ad) A out) args s 0 0 A) (F0 m 0 ls []) := by
  have hx := S.1
  have hb := S.2.1
  unfold mH_wantWhatIs at hf
  refine lv_aload_n (pc := 0) hx hb dH_wantWhatIs_0 rfl (lv_at hl 0 rfl) ?_
  refine j_get (pc := 1) (v := .ref (ad 2)) S hw inH 0 0 1 xg_0 rfl (by decide) k_163 rfl dH_wantWhatIs_1 ?_
  refine j_get (pc := 4) (v := .ref (ad 15)) S hw inS 2 2 0 xg_2 rfl (by decide) k_84 rfl dH_wantWhatIs_4 ?_
  refine lv_iload_n (pc := 7) hx hb dH_wantWhatIs_7 rfl (lv_at hl 1 rfl) ?_
  refine lv_iconst (pc := 8) (v := (0 : Int32)) hx hb dH_wantWhatIs_8 (by decide) ?_
  have hg := jbn_e hf; clear hf; obtain ⟨q1, h2, hf⟩ := hg
  refine j_cpi (pc := 9) (v := q1) (va_runS (As := [.int x1, .int (0 : Int32)]) (rest := [.ref (ad 15)]) S (kH_cellOf l D ca ad _ σ x1 (0 : Int32) q1 h2) (cwS 2 S.2.2.2.2 (jgS k_211 k_212 k_1 k_213) rfl rfl rfl (by decide +kernel) ⟨Nat.le_of_ble_eq_true rfl, Nat.le_of_ble_eq_true rfl⟩) (j_preS hw xN_b (xN_to hN hw hA)) rfl rfl hl.1 rfl (lv_room (Nat.le_of_ble_eq_true rfl)) dH_wantWhatIs_9 ⟨Nat.le_of_ble_eq_true rfl, Nat.le_of_ble_eq_true rfl⟩) ?_
  refine lv_aload_n (pc := 12) hx hb dH_wantWhatIs_12 rfl (lv_at hl 0 rfl) ?_
  refine j_get (pc := 13) (v := .ref (ad 29)) S hw inH 0 0 8 xg_0 rfl (by decide) k_170 rfl dH_wantWhatIs_13 ?_
  refine lv_iconst (pc := 16) (v := (0 : Int32)) hx hb dH_wantWhatIs_16 (by decide) ?_
  refine lv_bipush (pc := 17) (v := (8 : Int32)) hx hb dH_wantWhatIs_17 (by decide) ?_
  have hg := jcp_e hf; clear hf; obtain ⟨h5, h6, h7, h8, h9, σ3, e4, hf⟩ := hg
  refine j_copyi (pc := 19) (rest := []) (ws' := xC ca ad σ3) S hw hl.1 k_462 k_416 k_415 k_14 15 29 9 23 xg_15 xg_29 xt_15 xt_29 h5 h6 h7 h8 h9 (by rw [e4]; exact xa_29) (Nat.le_of_ble_eq_true rfl) (Nat.le_of_ble_eq_true rfl) dH_wantWhatIs_19 (fun H locs hw => ?_)
  obtain rfl := jsm hf
  exact j_vret (pc := 22) S hw hr hlk dH_wantWhatIs_22
set_option maxHeartbeats 4000000 in
set_option maxRecDepth 100000 in
theorem kH_wantWhatIs (l : Launch) (D : va_G) (ca : Nat → ClassId) (ad : Nat → Nat) (sz : Nat) (σ : JS) (x1 : Int32) (out : JS) (hf : mH_wantWhatIs σ x1 = some out) : Met l yH_wantWhatIs wsH_wantWhatIs rmH_wantWhatIs (jPre D (xT ca) (xC ca ad σ) (xN (va_A (xC ca ad σ) sz)) sz [.ref (ad 0), .int x1]) (jQv D (xT ca) (xC ca ad) (va_A (xC ca ad σ) sz) out) 0 0 (va_A (xC ca ad σ) sz) := by
  refine Met.ofW (cc := cH_wantWhatIs) (maxL := 2) (ret := none) (by decide) rfl ?_
  intro p e s m args below meth c s₁ B hml hv
  obtain ⟨rfl, hsz, hP, hK, hD0, hN⟩ := hv
  subst hsz
  have hl := lv_entry [.ref (ad 0), .int x1] (n := 2) (Nat.le_of_ble_eq_true rfl)
  rw [lg_entry_eq]
  generalize (lg_sl [.ref (ad 0), .int x1] ++ List.replicate (2 - (lg_sl [.ref (ad 0), .int x1]).length) Slot.unset).toArray = ls at hl ⊢
  exact bH_wantWhatIs (fun q h => Or.inr h) ⟨B.exec, B.bytes, hml, findClass_of_methodNamed B.named, fun w h => atoms_spec (ws := wsH_wantWhatIs) B.pre w (List.mem_cons_of_mem _ h)⟩ hN B.returns B.notSynchronized out σ x1 ls hl ⟨hP, hD0.self, va_S.rf, hK⟩ hf

def rmH_recordOf : Room := { frames := 0, cells := 0, slots := 0, locals := 0 }
def mH_recordOf (σ : JS) (x0 : Int32) : Option (Int32) :=
  some (x0 - x0 / (8 : Int32) * (8 : Int32))
set_option maxHeartbeats 4000000 in
set_option maxRecDepth 100000 in
theorem bH_recordOf {p : Program} {l : Launch} {e : Env} {s : State} {m : MethodId} {args : Array Value} {below : List Frame} {meth : Method} {c : Code} {D : va_G} {ca : Nat → ClassId} {ad : Nat → Nat} {A : Nat → Prop} (hA : ∀ q, s.heap.size ≤ q → A q) (S : CallFix p m c cH_recordOf 1 s args jall RH) (hN : xN A s) (hr : meth.sig.returnType = some .int) (hlk : meth.locks = false) (out : Int32) (σ : JS) (x0 : Int32) (ls : Array Slot) (hl : lv_has ls 1 [(0, .int x0)]) (hw : jH D (xT ca) (xC ca ad σ) A s.heap s.heap [] s) (hf : mH_recordOf σ x0 = some out) : W p l e (headSpec wsH_recordOf rmH_recordOf).room s m args below meth c s.heap [] 0 0 (MQ below (jSi out) args s 0 0 (fun _ => False)) (F0 m 0 ls []) := by
  have hx := S.1
  have hb := S.2.1
  unfold mH_recordOf at hf
  refine lv_iload_n (pc := 0) hx hb dH_recordOf_0 rfl (lv_at hl 0 rfl) ?_
  refine lv_bipush (pc := 1) (v := (8 : Int32)) hx hb dH_recordOf_1 (by decide) ?_
  refine lv_irem (pc := 3) hx hb dH_recordOf_3 (by decide) ?_
  obtain rfl := jsm hf
  exact j_ipr (pc := 4) S hr hlk dH_recordOf_4
set_option maxHeartbeats 4000000 in
set_option maxRecDepth 100000 in
theorem kH_recordOf (l : Launch) (D : va_G) (ca : Nat → ClassId) (ad : Nat → Nat) (sz : Nat) (σ : JS) (x0 : Int32) (out : Int32) (hf : mH_recordOf σ x0 = some out) : Met l yH_recordOf wsH_recordOf rmH_recordOf (jPre D (xT ca) (xC ca ad σ) (xN (va_A (xC ca ad σ) sz)) sz [.int x0]) (jSi out) 0 0 (fun _ => False) := by
  refine Met.ofW (cc := cH_recordOf) (maxL := 1) (ret := some .int) (by decide) rfl ?_
  intro p e s m args below meth c s₁ B hml hv
  obtain ⟨rfl, hsz, hP, hK, hD0, hN⟩ := hv
  subst hsz
  have hl := lv_entry [.int x0] (n := 1) (Nat.le_of_ble_eq_true rfl)
  rw [lg_entry_eq]
  generalize (lg_sl [.int x0] ++ List.replicate (1 - (lg_sl [.int x0]).length) Slot.unset).toArray = ls at hl ⊢
  exact bH_recordOf (fun q h => Or.inr h) ⟨B.exec, B.bytes, hml, findClass_of_methodNamed B.named, fun w h => atoms_spec (ws := wsH_recordOf) B.pre w (List.mem_cons_of_mem _ h)⟩ hN B.returns B.notSynchronized out σ x0 ls hl ⟨hP, hD0.self, va_S.rf, hK⟩ hf

def rmnH_apply : Room := { frames := 7, cells := 0, slots := 0, locals := 112 }
def rmxH_apply : Room := { frames := 7, cells := 1, slots := 6, locals := 112 }
def mH_apply_L54 (k : JS → Int32 → Option (Nat × Int32 × JS)) (x1 : Int32) (x2 : Int32) : Nat → JS → Int32 → Option (Nat × Int32 × JS)
  | 0, _, _ => none
  | n + 1, σ, x3 =>
    if x2 < x3 then
    (k σ x3)
    else
    (jbn (mJ_isChangeOf σ x1 x3) fun q10 =>
    if q10 = 0 then
    (mH_apply_L54 k x1 x2 n σ (x3 + 1))
    else
    (jrd σ 8 121 x3 fun v12 =>
    jbn (mH_recordOf σ v12) fun q15 =>
    jrd σ 10 121 x3 fun v17 =>
    jwr σ 29 8 q15 v17 fun σ20 =>
    mH_apply_L54 k x1 x2 n σ20 (x3 + 1)))
def mH_apply (σ : JS) (x1 : Int32) (x2 : Int32) : Option (Nat × Int32 × JS) :=
  jbn (mH_isFile σ x1) fun q1 =>
  if q1 = 0 then
  (some (1, 0, σ))
  else
  (if (σ 100 8) = 0 then
  (some (2, 0, σ))
  else
  (jbn (mH_canApply σ x1 x2) fun q3 =>
  if q3 = 0 then
  (some (2, 0, σ))
  else
  (jbn (mH_wantWhatIs σ x1) fun q5 =>
  jrd q5 27 3 x1 fun v7 =>
  mH_apply_L54 (fun σ23 z24 =>
  jbn (mH_bringToWanted σ23 x1 x2) fun q25 =>
  if q25.1 = 0 then
  (some (0, q25.2.1, q25.2.2))
  else
  (some (q25.1, 0, q25.2.2))) x1 x2 999 q5 (v7 + (1 : Int32)))))
set_option maxHeartbeats 4000000 in
set_option maxRecDepth 100000 in
theorem wnmH_apply_L54g {p : Program} {l : Launch} {e : Env} {s : State} {m : MethodId} {args : Array Value} {below : List Frame} {meth : Method} {c : Code} {D : va_G} {ca : Nat → ClassId} {ad : Nat → Nat} {A : Nat → Prop} (hA : ∀ q, s.heap.size ≤ q → A q) (S : CallFix p m c cH_apply 4 s args jall RH) (hN : xN A s) (hr : meth.sig.returnType = some .int) (hlk : meth.locks = false) (vo : Int32) (σo : JS) (k : JS → Int32 → Option (Nat × Int32 × JS)) (x1 : Int32) (x2 : Int32) (hk : ∀ (σ : JS) (x3 : Int32) (ls : Array Slot) (H : Heap) (locs : List Loc), lv_has ls 4 [(0, .ref (ad 0)), (1, .int x1), (2, .int x2), (3, .int x3)] → jH D (xT ca) (xC ca ad σ) A s.heap H locs s → k σ x3 = some (0, vo, σo) → W p l e (headSpec wsH_apply rmnH_apply).room s m args below meth c H locs 0 0 (MQ below (jQi D (xT ca) (xC ca ad) A vo σo) args s 0 0 A) (F0 m 103 ls [])) : ∀ (n : Nat) (σ : JS) (x3 : Int32) (ls : Array Slot) (H : Heap) (locs : List Loc), lv_has ls 4 [(0, .ref (ad 0)), (1, .int x1), (2, .int x2), (3, .int x3)] → jH D (xT ca) (xC ca ad σ) A s.heap H locs s → mH_apply_L54 k x1 x2 n σ x3 = some (0, vo, σo) → W p l e (headSpec wsH_apply rmnH_apply).room s m args below meth c H locs 0 0 (MQ below (jQi D (xT ca) (xC ca ad) A vo σo) args s 0 0 A) (F0 m 54 ls []) := by
  have hx := S.1
  have hb := S.2.1
  intro n
  induction n with
  | zero => intro σ x3 ls H locs hl hw hf; cases hf
  | succ n ih =>
    intro σ x3 ls H locs hl hw hf
    rw [mH_apply_L54] at hf
    refine lv_iload_n (pc := 54) hx hb dH_apply_54 rfl (lv_at hl 3 rfl) ?_
    refine lv_iload_n (pc := 55) hx hb dH_apply_55 rfl (lv_at hl 2 rfl) ?_
    refine lv_icmp_gt (pc := 56) (tgt := 103) hx hb dH_apply_56 (by decide) (fun hc => ?_) (fun hc => ?_)
    · replace hf := jit hf hc
      exact hk σ x3 _ _ _ (lv_sub hl [0, 1, 2, 3] rfl) hw hf
    · replace hf := jif hf hc
      refine lv_aload_n (pc := 59) hx hb dH_apply_59 rfl (lv_at hl 0 rfl) ?_
      refine j_get (pc := 60) (v := .ref (ad 1)) S hw inH 0 0 0 xg_0 rfl (by decide) k_162 rfl dH_apply_60 ?_
      refine lv_iload_n (pc := 63) hx hb dH_apply_63 rfl (lv_at hl 1 rfl) ?_
      refine lv_iload_n (pc := 64) hx hb dH_apply_64 rfl (lv_at hl 3 rfl) ?_
      have hg := jbn_e hf; clear hf; obtain ⟨q10, h11, hf⟩ := hg
      refine j_cpi (pc := 65) (v := q10) (va_runV (As := [.int x1, .int x3]) (rest := []) S (kJ_isChangeOf l D ca ad _ σ x1 x3 q10 h11) (cwV 2 S.2.2.2.2 (jgV k_499 k_491 k_492 k_2 k_493) rfl rfl rfl (by decide +kernel) ⟨Nat.le_of_ble_eq_true rfl, Nat.le_of_ble_eq_true rfl⟩) (j_preV (As := [.int x1, .int x3]) hw xN_b (xN_to hN hw hA) rfl xg_1) rfl rfl hl.1 rfl (lv_room (Nat.le_of_ble_eq_true rfl)) dH_apply_65 ⟨Nat.le_of_ble_eq_true rfl, Nat.le_of_ble_eq_true rfl⟩) ?_
      refine lv_if_eq (pc := 68) (tgt := 97) hx hb dH_apply_68 (by decide) (fun hc => ?_) (fun hc => ?_)
      · replace hf := jit hf hc
        refine lv_iinc (pc := 97) (v := (x3 + 1)) (k := 3) (lv' := [(3, .int (x3 + 1)), (0, .ref (ad 0)), (1, .int x1), (2, .int x2)]) hx hb dH_apply_97 hl rfl (j_inc _ (by decide)) (by decide) rfl (fun ls hl => ?_)
        refine lv_goto (pc := 100) (tgt := 54) hx hb dH_apply_100 (by decide) ?_
        exact ih σ (x3 + 1) _ _ _ (lv_sub hl [1, 2, 3, 0] rfl) hw hf
      · replace hf := jif hf hc
        refine lv_aload_n (pc := 71) hx hb dH_apply_71 rfl (lv_at hl 0 rfl) ?_
        refine j_get (pc := 72) (v := .ref (ad 29)) S hw inH 0 0 8 xg_0 rfl (by decide) k_170 rfl dH_apply_72 ?_
        refine lv_aload_n (pc := 75) hx hb dH_apply_75 rfl (lv_at hl 0 rfl) ?_
        refine j_get (pc := 76) (v := .ref (ad 1)) S hw inH 0 0 0 xg_0 rfl (by decide) k_162 rfl dH_apply_76 ?_
        refine j_get (pc := 79) (v := .ref (ad 8)) S hw inJ 1 1 2 xg_1 rfl (by decide) k_37 rfl dH_apply_79 ?_
        refine lv_iload_n (pc := 82) hx hb dH_apply_82 rfl (lv_at hl 3 rfl) ?_
        have hg := jrd_e hf; clear hf; obtain ⟨h13, v12, e14, hf⟩ := hg
        refine j_iald (pc := 83) S hw 8 2 xg_8 xt_8 h13 e14 dH_apply_83 ?_
        have hg := jbn_e hf; clear hf; obtain ⟨q15, h16, hf⟩ := hg
        refine j_cpi (pc := 84) (v := q15) (va_runS (As := [.int v12]) (rest := [.ref (ad 29)]) S (kH_recordOf l D ca ad _ σ v12 q15 h16) (cwS 1 S.2.2.2.2 (jgS k_254 k_255 k_1 k_256) rfl rfl rfl (by decide +kernel) ⟨Nat.le_of_ble_eq_true rfl, Nat.le_of_ble_eq_true rfl⟩) (j_preS hw xN_b (xN_to hN hw hA)) rfl rfl hl.1 rfl (lv_room (Nat.le_of_ble_eq_true rfl)) dH_apply_84 ⟨Nat.le_of_ble_eq_true rfl, Nat.le_of_ble_eq_true rfl⟩) ?_
        refine lv_aload_n (pc := 87) hx hb dH_apply_87 rfl (lv_at hl 0 rfl) ?_
        refine j_get (pc := 88) (v := .ref (ad 1)) S hw inH 0 0 0 xg_0 rfl (by decide) k_162 rfl dH_apply_88 ?_
        refine j_get (pc := 91) (v := .ref (ad 10)) S hw inJ 1 1 4 xg_1 rfl (by decide) k_43 rfl dH_apply_91 ?_
        refine lv_iload_n (pc := 94) hx hb dH_apply_94 rfl (lv_at hl 3 rfl) ?_
        have hg := jrd_e hf; clear hf; obtain ⟨h18, v17, e19, hf⟩ := hg
        refine j_iald (pc := 95) S hw 10 4 xg_10 xt_10 h18 e19 dH_apply_95 ?_
        have hg := jwr_e hf; clear hf; obtain ⟨h21, σ20, e22, hf⟩ := hg
        refine j_iast (pc := 96) (ws' := xC ca ad σ20) S hw 29 23 xg_29 xt_29 h21 (by rw [e22]; exact xs_29) dH_apply_96 (fun H locs hw => ?_)
        refine lv_iinc (pc := 97) (v := (x3 + 1)) (k := 3) (lv' := [(3, .int (x3 + 1)), (0, .ref (ad 0)), (1, .int x1), (2, .int x2)]) hx hb dH_apply_97 hl rfl (j_inc _ (by decide)) (by decide) rfl (fun ls hl => ?_)
        refine lv_goto (pc := 100) (tgt := 54) hx hb dH_apply_100 (by decide) ?_
        exact ih σ20 (x3 + 1) _ _ _ (lv_sub hl [1, 2, 3, 0] rfl) hw hf
set_option maxHeartbeats 4000000 in
set_option maxRecDepth 100000 in
theorem bnH_apply {p : Program} {l : Launch} {e : Env} {s : State} {m : MethodId} {args : Array Value} {below : List Frame} {meth : Method} {c : Code} {D : va_G} {ca : Nat → ClassId} {ad : Nat → Nat} {A : Nat → Prop} (hA : ∀ q, s.heap.size ≤ q → A q) (S : CallFix p m c cH_apply 4 s args jall RH) (hN : xN A s) (hr : meth.sig.returnType = some .int) (hlk : meth.locks = false) (vo : Int32) (σo : JS) (σ : JS) (x1 : Int32) (x2 : Int32) (ls : Array Slot) (hl : lv_has ls 4 [(0, .ref (ad 0)), (1, .int x1), (2, .int x2)]) (hw : jH D (xT ca) (xC ca ad σ) A s.heap s.heap [] s) (hf : mH_apply σ x1 x2 = some (0, vo, σo)) : W p l e (headSpec wsH_apply rmnH_apply).room s m args below meth c s.heap [] 0 0 (MQ below (jQi D (xT ca) (xC ca ad) A vo σo) args s 0 0 A) (F0 m 0 ls []) := by
  have hx := S.1
  have hb := S.2.1
  unfold mH_apply at hf
  refine lv_aload_n (pc := 0) hx hb dH_apply_0 rfl (lv_at hl 0 rfl) ?_
  refine lv_iload_n (pc := 1) hx hb dH_apply_1 rfl (lv_at hl 1 rfl) ?_
  have hg := jbn_e hf; clear hf; obtain ⟨q1, h2, hf⟩ := hg
  refine j_cpi (pc := 2) (v := q1) (va_runV (As := [.int x1]) (rest := []) S (kH_isFile l D ca ad _ σ x1 q1 h2) (cwV 1 S.2.2.2.2 (jgV k_207 k_209 ks_0 k_1 k_210) rfl rfl rfl (by decide +kernel) ⟨Nat.le_of_ble_eq_true rfl, Nat.le_of_ble_eq_true rfl⟩) (j_preV (As := [.int x1]) hw xN_b (xN_to hN hw hA) rfl xg_0) rfl rfl hl.1 rfl (lv_room (Nat.le_of_ble_eq_true rfl)) dH_apply_2 ⟨Nat.le_of_ble_eq_true rfl, Nat.le_of_ble_eq_true rfl⟩) ?_
  refine lv_if_ne (pc := 5) (tgt := 16) hx hb dH_apply_5 (by decide) (fun hc => ?_) (fun hc => ?_)
  · replace hf := jif hf hc
    refine lv_aload_n (pc := 16) hx hb dH_apply_16 rfl (lv_at hl 0 rfl) ?_
    refine j_get (pc := 17) (v := .int (σ 100 8)) S hw inH 0 0 11 xg_0 rfl (by decide) k_173 rfl dH_apply_17 ?_
    refine lv_if_eq (pc := 20) (tgt := 32) hx hb dH_apply_20 (by decide) (fun hc => ?_) (fun hc => ?_)
    · replace hf := jit hf hc
      exact (jo2 hf).elim
    · replace hf := jif hf hc
      refine lv_aload_n (pc := 23) hx hb dH_apply_23 rfl (lv_at hl 0 rfl) ?_
      refine lv_iload_n (pc := 24) hx hb dH_apply_24 rfl (lv_at hl 1 rfl) ?_
      refine lv_iload_n (pc := 25) hx hb dH_apply_25 rfl (lv_at hl 2 rfl) ?_
      have hg := jbn_e hf; clear hf; obtain ⟨q3, h4, hf⟩ := hg
      refine j_cpi (pc := 26) (v := q3) (va_runV (As := [.int x1, .int x2]) (rest := []) S (kH_canApply l D ca ad _ σ x1 x2 q3 h4) (cwV 2 S.2.2.2.2 (jgV k_482 k_484 ks_12 k_1 k_485) rfl rfl rfl (by decide +kernel) ⟨Nat.le_of_ble_eq_true rfl, Nat.le_of_ble_eq_true rfl⟩) (j_preV (As := [.int x1, .int x2]) hw xN_b (xN_to hN hw hA) rfl xg_0) rfl rfl hl.1 rfl (lv_room (Nat.le_of_ble_eq_true rfl)) dH_apply_26 ⟨Nat.le_of_ble_eq_true rfl, Nat.le_of_ble_eq_true rfl⟩) ?_
      refine lv_if_ne (pc := 29) (tgt := 40) hx hb dH_apply_29 (by decide) (fun hc => ?_) (fun hc => ?_)
      · replace hf := jif hf hc
        refine lv_aload_n (pc := 40) hx hb dH_apply_40 rfl (lv_at hl 0 rfl) ?_
        refine lv_iload_n (pc := 41) hx hb dH_apply_41 rfl (lv_at hl 1 rfl) ?_
        have hg := jbn_e hf; clear hf; obtain ⟨q5, h6, hf⟩ := hg
        refine j_callv (pc := 42) (C := xC ca ad) (σ' := q5) hw hA (va_runV (As := [.int x1]) (rest := []) S (kH_wantWhatIs l D ca ad _ σ x1 q5 h6) (cwV 1 S.2.2.2.2 (jgV k_495 k_497 ks_13 k_1 k_498) rfl rfl rfl (by decide +kernel) ⟨Nat.le_of_ble_eq_true rfl, Nat.le_of_ble_eq_true rfl⟩) (j_preV (As := [.int x1]) hw xN_b (xN_to hN hw hA) rfl xg_0) rfl rfl hl.1 rfl (lv_room (Nat.le_of_ble_eq_true rfl)) dH_apply_42 ⟨Nat.le_of_ble_eq_true rfl, Nat.le_of_ble_eq_true rfl⟩) (fun H locs hw => ?_)
        refine lv_aload_n (pc := 45) hx hb dH_apply_45 rfl (lv_at hl 0 rfl) ?_
        refine j_get (pc := 46) (v := .ref (ad 27)) S hw inH 0 0 6 xg_0 rfl (by decide) k_168 rfl dH_apply_46 ?_
        refine lv_iload_n (pc := 49) hx hb dH_apply_49 rfl (lv_at hl 1 rfl) ?_
        have hg := jrd_e hf; clear hf; obtain ⟨h8, v7, e9, hf⟩ := hg
        refine j_iald (pc := 50) S hw 27 21 xg_27 xt_27 h8 e9 dH_apply_50 ?_
        refine lv_iconst (pc := 51) (v := (1 : Int32)) hx hb dH_apply_51 (by decide) ?_
        refine lv_iadd (pc := 52) hx hb dH_apply_52 ?_
        refine lv_istore_n (pc := 53) (lv' := [(3, .int (v7 + (1 : Int32))), (0, .ref (ad 0)), (1, .int x1), (2, .int x2)]) hx hb dH_apply_53 rfl hl (by decide) rfl (fun ls hl => ?_)
        refine wnmH_apply_L54g hA S hN hr hlk vo σo _ x1 x2 (fun σ23 z24 ls H locs hl hw hf => ?_) 999 q5 (v7 + (1 : Int32)) _ _ _ (lv_sub hl [1, 2, 3, 0] rfl) hw hf
        try dsimp only at hf
        refine lv_aload_n (pc := 103) hx hb dH_apply_103 rfl (lv_at hl 0 rfl) ?_
        refine lv_iload_n (pc := 104) hx hb dH_apply_104 rfl (lv_at hl 1 rfl) ?_
        refine lv_iload_n (pc := 105) hx hb dH_apply_105 rfl (lv_at hl 2 rfl) ?_
        have hg := jbn_e hf; clear hf; obtain ⟨q25, h26, hf⟩ := hg
        by_cases hz9 : q25.1 = 0
        · replace hf := jit hf hz9
          refine j_calli (pc := 106) (C := xC ca ad) (σ' := q25.2.2) (v := q25.2.1) hw hA (va_runV (As := [.int x1, .int x2]) (rest := []) S (knH_bringToWanted l D ca ad _ σ23 x1 x2 q25.2.1 q25.2.2 (jq0 h26 hz9)) (cwV 2 S.2.2.2.2 (jgV k_463 k_465 ks_11 k_1 k_466) rfl rfl rfl (by decide +kernel) ⟨Nat.le_of_ble_eq_true rfl, Nat.le_of_ble_eq_true rfl⟩) (j_preV (As := [.int x1, .int x2]) hw xN_b (xN_to hN hw hA) rfl xg_0) rfl rfl hl.1 rfl (lv_room (Nat.le_of_ble_eq_true rfl)) dH_apply_106 ⟨Nat.le_of_ble_eq_true rfl, Nat.le_of_ble_eq_true rfl⟩) (fun H locs hw => ?_)
          obtain ⟨rfl, rfl⟩ := jo0 hf
          exact j_iret (pc := 109) S hw hr hlk dH_apply_109
        · replace hf := jif hf hz9
          exact absurd (jo3 hf) hz9
      · replace hf := jit hf hc
        exact (jo2 hf).elim
  · replace hf := jit hf hc
    exact (jo2 hf).elim
set_option maxHeartbeats 4000000 in
set_option maxRecDepth 100000 in
theorem knH_apply (l : Launch) (D : va_G) (ca : Nat → ClassId) (ad : Nat → Nat) (sz : Nat) (σ : JS) (x1 : Int32) (x2 : Int32) (vo : Int32) (σo : JS) (hf : mH_apply σ x1 x2 = some (0, vo, σo)) : Met l yH_apply wsH_apply rmnH_apply (jPre D (xT ca) (xC ca ad σ) (xN (va_A (xC ca ad σ) sz)) sz [.ref (ad 0), .int x1, .int x2]) (jQi D (xT ca) (xC ca ad) (va_A (xC ca ad σ) sz) vo σo) 0 0 (va_A (xC ca ad σ) sz) := by
  refine Met.ofW (cc := cH_apply) (maxL := 4) (ret := some .int) (by decide) rfl ?_
  intro p e s m args below meth c s₁ B hml hv
  obtain ⟨rfl, hsz, hP, hK, hD0, hN⟩ := hv
  subst hsz
  have hl := lv_entry [.ref (ad 0), .int x1, .int x2] (n := 4) (Nat.le_of_ble_eq_true rfl)
  rw [lg_entry_eq]
  generalize (lg_sl [.ref (ad 0), .int x1, .int x2] ++ List.replicate (4 - (lg_sl [.ref (ad 0), .int x1, .int x2]).length) Slot.unset).toArray = ls at hl ⊢
  exact bnH_apply (fun q h => Or.inr h) ⟨B.exec, B.bytes, hml, findClass_of_methodNamed B.named, fun w h => atoms_spec (ws := wsH_apply) B.pre w (List.mem_cons_of_mem _ h)⟩ hN B.returns B.notSynchronized vo σo σ x1 x2 ls hl ⟨hP, hD0.self, va_S.rf, hK⟩ hf
set_option maxHeartbeats 4000000 in
set_option maxRecDepth 100000 in
theorem wxmH_apply_L54g {p : Program} {l : Launch} {e : Env} {s : State} {m : MethodId} {args : Array Value} {below : List Frame} {meth : Method} {c : Code} {D : va_G} {ca : Nat → ClassId} {ad : Nat → Nat} {A : Nat → Prop} (hA : ∀ q, s.heap.size ≤ q → A q) (S : CallFix p m c cH_apply 4 s args jall RH) (hN : xN A s) (hr : meth.sig.returnType = some .int) (hlk : meth.locks = false) (hl9 : l.stackTraces = false) (ht9 : ∀ x ∈ c.exceptionTable.toList, False) (ko : Nat) (vo : Int32) (σo : JS) (hko : ¬ ko = 0) (k : JS → Int32 → Option (Nat × Int32 × JS)) (x1 : Int32) (x2 : Int32) (hk : ∀ (σ : JS) (x3 : Int32) (ls : Array Slot) (H : Heap) (locs : List Loc), lv_has ls 4 [(0, .ref (ad 0)), (1, .int x1), (2, .int x2), (3, .int x3)] → jH D (xT ca) (xC ca ad σ) A s.heap H locs s → k σ x3 = some (ko, vo, σo) → W p l e (headSpec wsH_apply rmxH_apply).room s m args below meth c H locs 0 0 (jxQ below s (jE ko) (jB D (xT ca) (xC ca ad) A σo) A 1 6) (F0 m 103 ls [])) : ∀ (n : Nat) (σ : JS) (x3 : Int32) (ls : Array Slot) (H : Heap) (locs : List Loc), lv_has ls 4 [(0, .ref (ad 0)), (1, .int x1), (2, .int x2), (3, .int x3)] → jH D (xT ca) (xC ca ad σ) A s.heap H locs s → mH_apply_L54 k x1 x2 n σ x3 = some (ko, vo, σo) → W p l e (headSpec wsH_apply rmxH_apply).room s m args below meth c H locs 0 0 (jxQ below s (jE ko) (jB D (xT ca) (xC ca ad) A σo) A 1 6) (F0 m 54 ls []) := by
  have hx := S.1
  have hb := S.2.1
  intro n
  induction n with
  | zero => intro σ x3 ls H locs hl hw hf; cases hf
  | succ n ih =>
    intro σ x3 ls H locs hl hw hf
    rw [mH_apply_L54] at hf
    refine lv_iload_n (pc := 54) hx hb dH_apply_54 rfl (lv_at hl 3 rfl) ?_
    refine lv_iload_n (pc := 55) hx hb dH_apply_55 rfl (lv_at hl 2 rfl) ?_
    refine lv_icmp_gt (pc := 56) (tgt := 103) hx hb dH_apply_56 (by decide) (fun hc => ?_) (fun hc => ?_)
    · replace hf := jit hf hc
      exact hk σ x3 _ _ _ (lv_sub hl [0, 1, 2, 3] rfl) hw hf
    · replace hf := jif hf hc
      refine lv_aload_n (pc := 59) hx hb dH_apply_59 rfl (lv_at hl 0 rfl) ?_
      refine j_get (pc := 60) (v := .ref (ad 1)) S hw inH 0 0 0 xg_0 rfl (by decide) k_162 rfl dH_apply_60 ?_
      refine lv_iload_n (pc := 63) hx hb dH_apply_63 rfl (lv_at hl 1 rfl) ?_
      refine lv_iload_n (pc := 64) hx hb dH_apply_64 rfl (lv_at hl 3 rfl) ?_
      have hg := jbn_e hf; clear hf; obtain ⟨q10, h11, hf⟩ := hg
      refine j_cpi (pc := 65) (v := q10) (va_runV (As := [.int x1, .int x3]) (rest := []) S (kJ_isChangeOf l D ca ad _ σ x1 x3 q10 h11) (cwV 2 S.2.2.2.2 (jgV k_499 k_491 k_492 k_2 k_493) rfl rfl rfl (by decide +kernel) ⟨Nat.le_of_ble_eq_true rfl, Nat.le_of_ble_eq_true rfl⟩) (j_preV (As := [.int x1, .int x3]) hw xN_b (xN_to hN hw hA) rfl xg_1) rfl rfl hl.1 rfl (lv_room (Nat.le_of_ble_eq_true rfl)) dH_apply_65 ⟨Nat.le_of_ble_eq_true rfl, Nat.le_of_ble_eq_true rfl⟩) ?_
      refine lv_if_eq (pc := 68) (tgt := 97) hx hb dH_apply_68 (by decide) (fun hc => ?_) (fun hc => ?_)
      · replace hf := jit hf hc
        refine lv_iinc (pc := 97) (v := (x3 + 1)) (k := 3) (lv' := [(3, .int (x3 + 1)), (0, .ref (ad 0)), (1, .int x1), (2, .int x2)]) hx hb dH_apply_97 hl rfl (j_inc _ (by decide)) (by decide) rfl (fun ls hl => ?_)
        refine lv_goto (pc := 100) (tgt := 54) hx hb dH_apply_100 (by decide) ?_
        exact ih σ (x3 + 1) _ _ _ (lv_sub hl [1, 2, 3, 0] rfl) hw hf
      · replace hf := jif hf hc
        refine lv_aload_n (pc := 71) hx hb dH_apply_71 rfl (lv_at hl 0 rfl) ?_
        refine j_get (pc := 72) (v := .ref (ad 29)) S hw inH 0 0 8 xg_0 rfl (by decide) k_170 rfl dH_apply_72 ?_
        refine lv_aload_n (pc := 75) hx hb dH_apply_75 rfl (lv_at hl 0 rfl) ?_
        refine j_get (pc := 76) (v := .ref (ad 1)) S hw inH 0 0 0 xg_0 rfl (by decide) k_162 rfl dH_apply_76 ?_
        refine j_get (pc := 79) (v := .ref (ad 8)) S hw inJ 1 1 2 xg_1 rfl (by decide) k_37 rfl dH_apply_79 ?_
        refine lv_iload_n (pc := 82) hx hb dH_apply_82 rfl (lv_at hl 3 rfl) ?_
        have hg := jrd_e hf; clear hf; obtain ⟨h13, v12, e14, hf⟩ := hg
        refine j_iald (pc := 83) S hw 8 2 xg_8 xt_8 h13 e14 dH_apply_83 ?_
        have hg := jbn_e hf; clear hf; obtain ⟨q15, h16, hf⟩ := hg
        refine j_cpi (pc := 84) (v := q15) (va_runS (As := [.int v12]) (rest := [.ref (ad 29)]) S (kH_recordOf l D ca ad _ σ v12 q15 h16) (cwS 1 S.2.2.2.2 (jgS k_254 k_255 k_1 k_256) rfl rfl rfl (by decide +kernel) ⟨Nat.le_of_ble_eq_true rfl, Nat.le_of_ble_eq_true rfl⟩) (j_preS hw xN_b (xN_to hN hw hA)) rfl rfl hl.1 rfl (lv_room (Nat.le_of_ble_eq_true rfl)) dH_apply_84 ⟨Nat.le_of_ble_eq_true rfl, Nat.le_of_ble_eq_true rfl⟩) ?_
        refine lv_aload_n (pc := 87) hx hb dH_apply_87 rfl (lv_at hl 0 rfl) ?_
        refine j_get (pc := 88) (v := .ref (ad 1)) S hw inH 0 0 0 xg_0 rfl (by decide) k_162 rfl dH_apply_88 ?_
        refine j_get (pc := 91) (v := .ref (ad 10)) S hw inJ 1 1 4 xg_1 rfl (by decide) k_43 rfl dH_apply_91 ?_
        refine lv_iload_n (pc := 94) hx hb dH_apply_94 rfl (lv_at hl 3 rfl) ?_
        have hg := jrd_e hf; clear hf; obtain ⟨h18, v17, e19, hf⟩ := hg
        refine j_iald (pc := 95) S hw 10 4 xg_10 xt_10 h18 e19 dH_apply_95 ?_
        have hg := jwr_e hf; clear hf; obtain ⟨h21, σ20, e22, hf⟩ := hg
        refine j_iast (pc := 96) (ws' := xC ca ad σ20) S hw 29 23 xg_29 xt_29 h21 (by rw [e22]; exact xs_29) dH_apply_96 (fun H locs hw => ?_)
        refine lv_iinc (pc := 97) (v := (x3 + 1)) (k := 3) (lv' := [(3, .int (x3 + 1)), (0, .ref (ad 0)), (1, .int x1), (2, .int x2)]) hx hb dH_apply_97 hl rfl (j_inc _ (by decide)) (by decide) rfl (fun ls hl => ?_)
        refine lv_goto (pc := 100) (tgt := 54) hx hb dH_apply_100 (by decide) ?_
        exact ih σ20 (x3 + 1) _ _ _ (lv_sub hl [1, 2, 3, 0] rfl) hw hf
set_option maxHeartbeats 4000000 in
set_option maxRecDepth 100000 in
theorem bxH_apply {p : Program} {l : Launch} {e : Env} {s : State} {m : MethodId} {args : Array Value} {below : List Frame} {meth : Method} {c : Code} {D : va_G} {ca : Nat → ClassId} {ad : Nat → Nat} {A : Nat → Prop} (hA : ∀ q, s.heap.size ≤ q → A q) (S : CallFix p m c cH_apply 4 s args jall RH) (hN : xN A s) (hr : meth.sig.returnType = some .int) (hlk : meth.locks = false) (hl9 : l.stackTraces = false) (ht9 : ∀ x ∈ c.exceptionTable.toList, False) (ko : Nat) (vo : Int32) (σo : JS) (hko : ¬ ko = 0) (σ : JS) (x1 : Int32) (x2 : Int32) (ls : Array Slot) (hl : lv_has ls 4 [(0, .ref (ad 0)), (1, .int x1), (2, .int x2)]) (hw : jH D (xT ca) (xC ca ad σ) A s.heap s.heap [] s) (hf : mH_apply σ x1 x2 = some (ko, vo, σo)) : W p l e (headSpec wsH_apply rmxH_apply).room s m args below meth c s.heap [] 0 0 (jxQ below s (jE ko) (jB D (xT ca) (xC ca ad) A σo) A 1 6) (F0 m 0 ls []) := by
  have hx := S.1
  have hb := S.2.1
  unfold mH_apply at hf
  refine lv_aload_n (pc := 0) hx hb dH_apply_0 rfl (lv_at hl 0 rfl) ?_
  refine lv_iload_n (pc := 1) hx hb dH_apply_1 rfl (lv_at hl 1 rfl) ?_
  have hg := jbn_e hf; clear hf; obtain ⟨q1, h2, hf⟩ := hg
  refine j_cpi (pc := 2) (v := q1) (va_runV (As := [.int x1]) (rest := []) S (kH_isFile l D ca ad _ σ x1 q1 h2) (cwV 1 S.2.2.2.2 (jgV k_207 k_209 ks_0 k_1 k_210) rfl rfl rfl (by decide +kernel) ⟨Nat.le_of_ble_eq_true rfl, Nat.le_of_ble_eq_true rfl⟩) (j_preV (As := [.int x1]) hw xN_b (xN_to hN hw hA) rfl xg_0) rfl rfl hl.1 rfl (lv_room (Nat.le_of_ble_eq_true rfl)) dH_apply_2 ⟨Nat.le_of_ble_eq_true rfl, Nat.le_of_ble_eq_true rfl⟩) ?_
  refine lv_if_ne (pc := 5) (tgt := 16) hx hb dH_apply_5 (by decide) (fun hc => ?_) (fun hc => ?_)
  · replace hf := jif hf hc
    refine lv_aload_n (pc := 16) hx hb dH_apply_16 rfl (lv_at hl 0 rfl) ?_
    refine j_get (pc := 17) (v := .int (σ 100 8)) S hw inH 0 0 11 xg_0 rfl (by decide) k_173 rfl dH_apply_17 ?_
    refine lv_if_eq (pc := 20) (tgt := 32) hx hb dH_apply_20 (by decide) (fun hc => ?_) (fun hc => ?_)
    · replace hf := jit hf hc
      obtain ⟨rfl, rfl, rfl⟩ := jo4 hf
      exact jx_throw (pc := 32) (own := RH) (cls := jE 2) (names := jnm) (ik := 68) (ic := 70) hx hb hl9 S.2.2.2.1 (by decide +kernel) (by decide +kernel) (S.2.2.2.2 _ k_340) (S.2.2.2.2 _ k_12) (jxw_of S hN jxw2) (hl.1.trans S.2.2.1.symm) dH_apply_32 dH_apply_35 dH_apply_36 dH_apply_39 ht9 (Nat.le_of_ble_eq_true rfl) (Nat.le_of_ble_eq_true rfl) (Nat.le_of_ble_eq_true rfl) (Nat.le_of_ble_eq_true rfl) hlk (Nat.le_refl _) (Nat.le_refl _) (jB_kept hw)
    · replace hf := jif hf hc
      refine lv_aload_n (pc := 23) hx hb dH_apply_23 rfl (lv_at hl 0 rfl) ?_
      refine lv_iload_n (pc := 24) hx hb dH_apply_24 rfl (lv_at hl 1 rfl) ?_
      refine lv_iload_n (pc := 25) hx hb dH_apply_25 rfl (lv_at hl 2 rfl) ?_
      have hg := jbn_e hf; clear hf; obtain ⟨q3, h4, hf⟩ := hg
      refine j_cpi (pc := 26) (v := q3) (va_runV (As := [.int x1, .int x2]) (rest := []) S (kH_canApply l D ca ad _ σ x1 x2 q3 h4) (cwV 2 S.2.2.2.2 (jgV k_482 k_484 ks_12 k_1 k_485) rfl rfl rfl (by decide +kernel) ⟨Nat.le_of_ble_eq_true rfl, Nat.le_of_ble_eq_true rfl⟩) (j_preV (As := [.int x1, .int x2]) hw xN_b (xN_to hN hw hA) rfl xg_0) rfl rfl hl.1 rfl (lv_room (Nat.le_of_ble_eq_true rfl)) dH_apply_26 ⟨Nat.le_of_ble_eq_true rfl, Nat.le_of_ble_eq_true rfl⟩) ?_
      refine lv_if_ne (pc := 29) (tgt := 40) hx hb dH_apply_29 (by decide) (fun hc => ?_) (fun hc => ?_)
      · replace hf := jif hf hc
        refine lv_aload_n (pc := 40) hx hb dH_apply_40 rfl (lv_at hl 0 rfl) ?_
        refine lv_iload_n (pc := 41) hx hb dH_apply_41 rfl (lv_at hl 1 rfl) ?_
        have hg := jbn_e hf; clear hf; obtain ⟨q5, h6, hf⟩ := hg
        refine j_callv (pc := 42) (C := xC ca ad) (σ' := q5) hw hA (va_runV (As := [.int x1]) (rest := []) S (kH_wantWhatIs l D ca ad _ σ x1 q5 h6) (cwV 1 S.2.2.2.2 (jgV k_495 k_497 ks_13 k_1 k_498) rfl rfl rfl (by decide +kernel) ⟨Nat.le_of_ble_eq_true rfl, Nat.le_of_ble_eq_true rfl⟩) (j_preV (As := [.int x1]) hw xN_b (xN_to hN hw hA) rfl xg_0) rfl rfl hl.1 rfl (lv_room (Nat.le_of_ble_eq_true rfl)) dH_apply_42 ⟨Nat.le_of_ble_eq_true rfl, Nat.le_of_ble_eq_true rfl⟩) (fun H locs hw => ?_)
        refine lv_aload_n (pc := 45) hx hb dH_apply_45 rfl (lv_at hl 0 rfl) ?_
        refine j_get (pc := 46) (v := .ref (ad 27)) S hw inH 0 0 6 xg_0 rfl (by decide) k_168 rfl dH_apply_46 ?_
        refine lv_iload_n (pc := 49) hx hb dH_apply_49 rfl (lv_at hl 1 rfl) ?_
        have hg := jrd_e hf; clear hf; obtain ⟨h8, v7, e9, hf⟩ := hg
        refine j_iald (pc := 50) S hw 27 21 xg_27 xt_27 h8 e9 dH_apply_50 ?_
        refine lv_iconst (pc := 51) (v := (1 : Int32)) hx hb dH_apply_51 (by decide) ?_
        refine lv_iadd (pc := 52) hx hb dH_apply_52 ?_
        refine lv_istore_n (pc := 53) (lv' := [(3, .int (v7 + (1 : Int32))), (0, .ref (ad 0)), (1, .int x1), (2, .int x2)]) hx hb dH_apply_53 rfl hl (by decide) rfl (fun ls hl => ?_)
        refine wxmH_apply_L54g hA S hN hr hlk hl9 ht9 ko vo σo hko _ x1 x2 (fun σ23 z24 ls H locs hl hw hf => ?_) 999 q5 (v7 + (1 : Int32)) _ _ _ (lv_sub hl [1, 2, 3, 0] rfl) hw hf
        try dsimp only at hf
        refine lv_aload_n (pc := 103) hx hb dH_apply_103 rfl (lv_at hl 0 rfl) ?_
        refine lv_iload_n (pc := 104) hx hb dH_apply_104 rfl (lv_at hl 1 rfl) ?_
        refine lv_iload_n (pc := 105) hx hb dH_apply_105 rfl (lv_at hl 2 rfl) ?_
        have hg := jbn_e hf; clear hf; obtain ⟨q25, h26, hf⟩ := hg
        by_cases hz9 : q25.1 = 0
        · replace hf := jit hf hz9
          refine j_calli (pc := 106) (C := xC ca ad) (σ' := q25.2.2) (v := q25.2.1) hw hA (va_runV (As := [.int x1, .int x2]) (rest := []) S (knH_bringToWanted l D ca ad _ σ23 x1 x2 q25.2.1 q25.2.2 (jq0 h26 hz9)) (cwV 2 S.2.2.2.2 (jgV k_463 k_465 ks_11 k_1 k_466) rfl rfl rfl (by decide +kernel) ⟨Nat.le_of_ble_eq_true rfl, Nat.le_of_ble_eq_true rfl⟩) (j_preV (As := [.int x1, .int x2]) hw xN_b (xN_to hN hw hA) rfl xg_0) rfl rfl hl.1 rfl (lv_room (Nat.le_of_ble_eq_true rfl)) dH_apply_106 ⟨Nat.le_of_ble_eq_true rfl, Nat.le_of_ble_eq_true rfl⟩) (fun H locs hw => ?_)
          exact absurd (jo1 hf) hko
        · replace hf := jif hf hz9
          obtain ⟨rfl, rfl, rfl⟩ := jo4 hf
          exact jx_passV (pc := 106) (As := [.int x1, .int x2]) (rest := []) (C := xC ca ad) S hw hA ht9 hlk (kxH_bringToWanted l hl9 D ca ad _ σ23 x1 x2 q25.1 q25.2.1 q25.2.2 hz9 (jq1 h26)) (cwV 2 S.2.2.2.2 (jgV k_463 k_465 ks_11 k_1 k_466) rfl rfl rfl (by decide +kernel) ⟨Nat.le_of_ble_eq_true rfl, Nat.le_of_ble_eq_true rfl⟩) (j_preV (As := [.int x1, .int x2]) hw xN_b (xN_to hN hw hA) rfl xg_0) rfl hl.1 (Nat.le_of_ble_eq_true rfl) dH_apply_106 (Nat.le_of_ble_eq_true rfl) (Nat.le_of_ble_eq_true rfl)
      · replace hf := jit hf hc
        obtain ⟨rfl, rfl, rfl⟩ := jo4 hf
        exact jx_throw (pc := 32) (own := RH) (cls := jE 2) (names := jnm) (ik := 68) (ic := 70) hx hb hl9 S.2.2.2.1 (by decide +kernel) (by decide +kernel) (S.2.2.2.2 _ k_340) (S.2.2.2.2 _ k_12) (jxw_of S hN jxw2) (hl.1.trans S.2.2.1.symm) dH_apply_32 dH_apply_35 dH_apply_36 dH_apply_39 ht9 (Nat.le_of_ble_eq_true rfl) (Nat.le_of_ble_eq_true rfl) (Nat.le_of_ble_eq_true rfl) (Nat.le_of_ble_eq_true rfl) hlk (Nat.le_refl _) (Nat.le_refl _) (jB_kept hw)
  · replace hf := jit hf hc
    obtain ⟨rfl, rfl, rfl⟩ := jo4 hf
    exact jx_throw (pc := 8) (own := RH) (cls := jE 1) (names := jnm) (ik := 61) (ic := 63) hx hb hl9 S.2.2.2.1 (by decide +kernel) (by decide +kernel) (S.2.2.2.2 _ k_278) (S.2.2.2.2 _ k_11) (jxw_of S hN jxw1) (hl.1.trans S.2.2.1.symm) dH_apply_8 dH_apply_11 dH_apply_12 dH_apply_15 ht9 (Nat.le_of_ble_eq_true rfl) (Nat.le_of_ble_eq_true rfl) (Nat.le_of_ble_eq_true rfl) (Nat.le_of_ble_eq_true rfl) hlk (Nat.le_refl _) (Nat.le_refl _) (jB_kept hw)
set_option maxHeartbeats 4000000 in
set_option maxRecDepth 100000 in
theorem kxH_apply (l : Launch) (hl9 : l.stackTraces = false) (D : va_G) (ca : Nat → ClassId) (ad : Nat → Nat) (sz : Nat) (σ : JS) (x1 : Int32) (x2 : Int32) (ko : Nat) (vo : Int32) (σo : JS) (hko : ¬ ko = 0) (hf : mH_apply σ x1 x2 = some (ko, vo, σo)) : jxM l yH_apply wsH_apply rmxH_apply (jPre D (xT ca) (xC ca ad σ) (xN (va_A (xC ca ad σ) sz)) sz [.ref (ad 0), .int x1, .int x2]) (jE ko) (jB D (xT ca) (xC ca ad) (va_A (xC ca ad σ) sz) σo) (va_A (xC ca ad σ) sz) 1 6 := by
  refine jxM_of (cc := cH_apply) (maxL := 4) (ret := some .int) (by decide) rfl ?_
  intro p e s m args below meth c s₁ B hml hnil hv
  obtain ⟨rfl, hsz, hP, hK, hD0, hN⟩ := hv
  subst hsz
  have hl := lv_entry [.ref (ad 0), .int x1, .int x2] (n := 4) (Nat.le_of_ble_eq_true rfl)
  rw [lg_entry_eq]
  generalize (lg_sl [.ref (ad 0), .int x1, .int x2] ++ List.replicate (4 - (lg_sl [.ref (ad 0), .int x1, .int x2]).length) Slot.unset).toArray = ls at hl ⊢
  exact bxH_apply (fun q h => Or.inr h) ⟨B.exec, B.bytes, hml, findClass_of_methodNamed B.named, fun w h => atoms_spec (ws := wsH_apply) B.pre w (List.mem_cons_of_mem _ h)⟩ hN B.returns B.notSynchronized hl9 hnil ko vo σo hko σ x1 x2 ls hl ⟨hP, hD0.self, va_S.rf, hK⟩ hf

def rmH_numberToRemoveFrom : Room := { frames := 0, cells := 0, slots := 0, locals := 0 }
def mH_numberToRemoveFrom (σ : JS) (x1 : Int32) : Option (Int32) :=
  jrd σ 27 3 x1 fun v1 =>
  if v1 = (-1 : Int32) then
  (some (σ 100 0))
  else
  (jrd σ 27 3 x1 fun v4 =>
  some v4)
set_option maxHeartbeats 4000000 in
set_option maxRecDepth 100000 in
theorem bH_numberToRemoveFrom {p : Program} {l : Launch} {e : Env} {s : State} {m : MethodId} {args : Array Value} {below : List Frame} {meth : Method} {c : Code} {D : va_G} {ca : Nat → ClassId} {ad : Nat → Nat} {A : Nat → Prop} (hA : ∀ q, s.heap.size ≤ q → A q) (S : CallFix p m c cH_numberToRemoveFrom 2 s args jall RH) (hN : xN A s) (hr : meth.sig.returnType = some .int) (hlk : meth.locks = false) (out : Int32) (σ : JS) (x1 : Int32) (ls : Array Slot) (hl : lv_has ls 2 [(0, .ref (ad 0)), (1, .int x1)]) (hw : jH D (xT ca) (xC ca ad σ) A s.heap s.heap [] s) (hf : mH_numberToRemoveFrom σ x1 = some out) : W p l e (headSpec wsH_numberToRemoveFrom rmH_numberToRemoveFrom).room s m args below meth c s.heap [] 0 0 (MQ below (jSi out) args s 0 0 (fun _ => False)) (F0 m 0 ls []) := by
  have hx := S.1
  have hb := S.2.1
  unfold mH_numberToRemoveFrom at hf
  refine lv_aload_n (pc := 0) hx hb dH_numberToRemoveFrom_0 rfl (lv_at hl 0 rfl) ?_
  refine j_get (pc := 1) (v := .ref (ad 27)) S hw inH 0 0 6 xg_0 rfl (by decide) k_168 rfl dH_numberToRemoveFrom_1 ?_
  refine lv_iload_n (pc := 4) hx hb dH_numberToRemoveFrom_4 rfl (lv_at hl 1 rfl) ?_
  have hg := jrd_e hf; clear hf; obtain ⟨h2, v1, e3, hf⟩ := hg
  refine j_iald (pc := 5) S hw 27 21 xg_27 xt_27 h2 e3 dH_numberToRemoveFrom_5 ?_
  refine lv_iconst (pc := 6) (v := (-1 : Int32)) hx hb dH_numberToRemoveFrom_6 (by decide) ?_
  refine lv_icmp_ne (pc := 7) (tgt := 20) hx hb dH_numberToRemoveFrom_7 (by decide) (fun hc => ?_) (fun hc => ?_)
  · replace hf := jif hf hc
    refine lv_aload_n (pc := 20) hx hb dH_numberToRemoveFrom_20 rfl (lv_at hl 0 rfl) ?_
    refine j_get (pc := 21) (v := .ref (ad 27)) S hw inH 0 0 6 xg_0 rfl (by decide) k_168 rfl dH_numberToRemoveFrom_21 ?_
    refine lv_iload_n (pc := 24) hx hb dH_numberToRemoveFrom_24 rfl (lv_at hl 1 rfl) ?_
    have hg := jrd_e hf; clear hf; obtain ⟨h5, v4, e6, hf⟩ := hg
    refine j_iald (pc := 25) S hw 27 21 xg_27 xt_27 h5 e6 dH_numberToRemoveFrom_25 ?_
    obtain rfl := jsm hf
    exact j_ipr (pc := 26) S hr hlk dH_numberToRemoveFrom_26
  · replace hf := jit hf hc
    refine lv_aload_n (pc := 10) hx hb dH_numberToRemoveFrom_10 rfl (lv_at hl 0 rfl) ?_
    refine j_get (pc := 11) (v := .ref (ad 1)) S hw inH 0 0 0 xg_0 rfl (by decide) k_162 rfl dH_numberToRemoveFrom_11 ?_
    refine j_get (pc := 14) (v := .int (σ 100 0)) S hw inJ 1 1 9 xg_1 rfl (by decide) k_50 rfl dH_numberToRemoveFrom_14 ?_
    refine lv_goto (pc := 17) (tgt := 26) hx hb dH_numberToRemoveFrom_17 (by decide) ?_
    obtain rfl := jsm hf
    exact j_ipr (pc := 26) S hr hlk dH_numberToRemoveFrom_26
set_option maxHeartbeats 4000000 in
set_option maxRecDepth 100000 in
theorem kH_numberToRemoveFrom (l : Launch) (D : va_G) (ca : Nat → ClassId) (ad : Nat → Nat) (sz : Nat) (σ : JS) (x1 : Int32) (out : Int32) (hf : mH_numberToRemoveFrom σ x1 = some out) : Met l yH_numberToRemoveFrom wsH_numberToRemoveFrom rmH_numberToRemoveFrom (jPre D (xT ca) (xC ca ad σ) (xN (va_A (xC ca ad σ) sz)) sz [.ref (ad 0), .int x1]) (jSi out) 0 0 (fun _ => False) := by
  refine Met.ofW (cc := cH_numberToRemoveFrom) (maxL := 2) (ret := some .int) (by decide) rfl ?_
  intro p e s m args below meth c s₁ B hml hv
  obtain ⟨rfl, hsz, hP, hK, hD0, hN⟩ := hv
  subst hsz
  have hl := lv_entry [.ref (ad 0), .int x1] (n := 2) (Nat.le_of_ble_eq_true rfl)
  rw [lg_entry_eq]
  generalize (lg_sl [.ref (ad 0), .int x1] ++ List.replicate (2 - (lg_sl [.ref (ad 0), .int x1]).length) Slot.unset).toArray = ls at hl ⊢
  exact bH_numberToRemoveFrom (fun q h => Or.inr h) ⟨B.exec, B.bytes, hml, findClass_of_methodNamed B.named, fun w h => atoms_spec (ws := wsH_numberToRemoveFrom) B.pre w (List.mem_cons_of_mem _ h)⟩ hN B.returns B.notSynchronized out σ x1 ls hl ⟨hP, hD0.self, va_S.rf, hK⟩ hf

def rmH_canRemove : Room := { frames := 3, cells := 0, slots := 0, locals := 66 }
def mH_canRemove (σ : JS) (x1 : Int32) (x2 : Int32) : Option (Int32) :=
  jbn (mH_numberToRemoveFrom σ x1) fun q1 =>
  if q1 ≤ x2 then
  (some (0 : Int32))
  else
  (jbn (mJ_isCycleOn σ x1) fun q3 =>
  if q3 = 0 then
  (jbn (mJ_isBoundary σ x1 x2) fun q5 =>
  if q5 = 0 then
  (some (0 : Int32))
  else
  (jbn (mJ_keepsChangesOf σ x1 x2 q1) fun q7 =>
  if q7 = 0 then
  (some (0 : Int32))
  else
  (some (1 : Int32))))
  else
  (some (0 : Int32)))
set_option maxHeartbeats 4000000 in
set_option maxRecDepth 100000 in
theorem bH_canRemove {p : Program} {l : Launch} {e : Env} {s : State} {m : MethodId} {args : Array Value} {below : List Frame} {meth : Method} {c : Code} {D : va_G} {ca : Nat → ClassId} {ad : Nat → Nat} {A : Nat → Prop} (hA : ∀ q, s.heap.size ≤ q → A q) (S : CallFix p m c cH_canRemove 4 s args jall RH) (hN : xN A s) (hr : meth.sig.returnType = some .boolean) (hlk : meth.locks = false) (out : Int32) (σ : JS) (x1 : Int32) (x2 : Int32) (ls : Array Slot) (hl : lv_has ls 4 [(0, .ref (ad 0)), (1, .int x1), (2, .int x2)]) (hw : jH D (xT ca) (xC ca ad σ) A s.heap s.heap [] s) (hf : mH_canRemove σ x1 x2 = some out) : W p l e (headSpec wsH_canRemove rmH_canRemove).room s m args below meth c s.heap [] 0 0 (MQ below (jSi out) args s 0 0 (fun _ => False)) (F0 m 0 ls []) := by
  have hx := S.1
  have hb := S.2.1
  unfold mH_canRemove at hf
  refine lv_aload_n (pc := 0) hx hb dH_canRemove_0 rfl (lv_at hl 0 rfl) ?_
  refine lv_iload_n (pc := 1) hx hb dH_canRemove_1 rfl (lv_at hl 1 rfl) ?_
  have hg := jbn_e hf; clear hf; obtain ⟨q1, h2, hf⟩ := hg
  refine j_cpi (pc := 2) (v := q1) (va_runV (As := [.int x1]) (rest := []) S (kH_numberToRemoveFrom l D ca ad _ σ x1 q1 h2) (cwV 1 S.2.2.2.2 (jgV k_511 k_513 ks_14 k_1 k_514) rfl rfl rfl (by decide +kernel) ⟨Nat.le_of_ble_eq_true rfl, Nat.le_of_ble_eq_true rfl⟩) (j_preV (As := [.int x1]) hw xN_b (xN_to hN hw hA) rfl xg_0) rfl rfl hl.1 rfl (lv_room (Nat.le_of_ble_eq_true rfl)) dH_canRemove_2 ⟨Nat.le_of_ble_eq_true rfl, Nat.le_of_ble_eq_true rfl⟩) ?_
  refine lv_istore_n (pc := 5) (lv' := [(3, .int q1), (0, .ref (ad 0)), (1, .int x1), (2, .int x2)]) hx hb dH_canRemove_5 rfl hl (by decide) rfl (fun ls hl => ?_)
  refine lv_iload_n (pc := 6) hx hb dH_canRemove_6 rfl (lv_at hl 3 rfl) ?_
  refine lv_iload_n (pc := 7) hx hb dH_canRemove_7 rfl (lv_at hl 0 rfl) ?_
  refine lv_icmp_ge (pc := 8) (tgt := 51) hx hb dH_canRemove_8 (by decide) (fun hc => ?_) (fun hc => ?_)
  · replace hf := jit hf hc
    refine lv_iconst (pc := 51) (v := (0 : Int32)) hx hb dH_canRemove_51 (by decide) ?_
    obtain rfl := jsm hf
    exact j_zpr (pc := 52) S hr hlk (Or.inl rfl) dH_canRemove_52
  · replace hf := jif hf hc
    refine lv_aload_n (pc := 11) hx hb dH_canRemove_11 rfl (lv_at hl 1 rfl) ?_
    refine j_get (pc := 12) (v := .ref (ad 1)) S hw inH 0 0 0 xg_0 rfl (by decide) k_162 rfl dH_canRemove_12 ?_
    refine lv_iload_n (pc := 15) hx hb dH_canRemove_15 rfl (lv_at hl 2 rfl) ?_
    have hg := jbn_e hf; clear hf; obtain ⟨q3, h4, hf⟩ := hg
    refine j_cpi (pc := 16) (v := q3) (va_runV (As := [.int x1]) (rest := []) S (kJ_isCycleOn l D ca ad _ σ x1 q3 h4) (cwV 1 S.2.2.2.2 (jgV k_444 k_445 k_446 k_2 k_447) rfl rfl rfl (by decide +kernel) ⟨Nat.le_of_ble_eq_true rfl, Nat.le_of_ble_eq_true rfl⟩) (j_preV (As := [.int x1]) hw xN_b (xN_to hN hw hA) rfl xg_1) rfl rfl hl.1 rfl (lv_room (Nat.le_of_ble_eq_true rfl)) dH_canRemove_16 ⟨Nat.le_of_ble_eq_true rfl, Nat.le_of_ble_eq_true rfl⟩) ?_
    refine lv_if_ne (pc := 19) (tgt := 51) hx hb dH_canRemove_19 (by decide) (fun hc => ?_) (fun hc => ?_)
    · replace hf := jif hf hc
      refine lv_iconst (pc := 51) (v := (0 : Int32)) hx hb dH_canRemove_51 (by decide) ?_
      obtain rfl := jsm hf
      exact j_zpr (pc := 52) S hr hlk (Or.inl rfl) dH_canRemove_52
    · replace hf := jit hf hc
      refine lv_aload_n (pc := 22) hx hb dH_canRemove_22 rfl (lv_at hl 1 rfl) ?_
      refine j_get (pc := 23) (v := .ref (ad 1)) S hw inH 0 0 0 xg_0 rfl (by decide) k_162 rfl dH_canRemove_23 ?_
      refine lv_iload_n (pc := 26) hx hb dH_canRemove_26 rfl (lv_at hl 2 rfl) ?_
      refine lv_iload_n (pc := 27) hx hb dH_canRemove_27 rfl (lv_at hl 3 rfl) ?_
      have hg := jbn_e hf; clear hf; obtain ⟨q5, h6, hf⟩ := hg
      refine j_cpi (pc := 28) (v := q5) (va_runV (As := [.int x1, .int x2]) (rest := []) S (kJ_isBoundary l D ca ad _ σ x1 x2 q5 h6) (cwV 2 S.2.2.2.2 (jgV k_231 k_232 k_233 k_2 k_234) rfl rfl rfl (by decide +kernel) ⟨Nat.le_of_ble_eq_true rfl, Nat.le_of_ble_eq_true rfl⟩) (j_preV (As := [.int x1, .int x2]) hw xN_b (xN_to hN hw hA) rfl xg_1) rfl rfl hl.1 rfl (lv_room (Nat.le_of_ble_eq_true rfl)) dH_canRemove_28 ⟨Nat.le_of_ble_eq_true rfl, Nat.le_of_ble_eq_true rfl⟩) ?_
      refine lv_if_eq (pc := 31) (tgt := 51) hx hb dH_canRemove_31 (by decide) (fun hc => ?_) (fun hc => ?_)
      · replace hf := jit hf hc
        refine lv_iconst (pc := 51) (v := (0 : Int32)) hx hb dH_canRemove_51 (by decide) ?_
        obtain rfl := jsm hf
        exact j_zpr (pc := 52) S hr hlk (Or.inl rfl) dH_canRemove_52
      · replace hf := jif hf hc
        refine lv_aload_n (pc := 34) hx hb dH_canRemove_34 rfl (lv_at hl 1 rfl) ?_
        refine j_get (pc := 35) (v := .ref (ad 1)) S hw inH 0 0 0 xg_0 rfl (by decide) k_162 rfl dH_canRemove_35 ?_
        refine lv_iload_n (pc := 38) hx hb dH_canRemove_38 rfl (lv_at hl 2 rfl) ?_
        refine lv_iload_n (pc := 39) hx hb dH_canRemove_39 rfl (lv_at hl 3 rfl) ?_
        refine lv_iload_n (pc := 40) hx hb dH_canRemove_40 rfl (lv_at hl 0 rfl) ?_
        have hg := jbn_e hf; clear hf; obtain ⟨q7, h8, hf⟩ := hg
        refine j_cpi (pc := 41) (v := q7) (va_runV (As := [.int x1, .int x2, .int q1]) (rest := []) S (kJ_keepsChangesOf l D ca ad _ σ x1 x2 q1 q7 h8) (cwV 3 S.2.2.2.2 (jgV k_486 k_487 k_488 k_2 k_489) rfl rfl rfl (by decide +kernel) ⟨Nat.le_of_ble_eq_true rfl, Nat.le_of_ble_eq_true rfl⟩) (j_preV (As := [.int x1, .int x2, .int q1]) hw xN_b (xN_to hN hw hA) rfl xg_1) rfl rfl hl.1 rfl (lv_room (Nat.le_of_ble_eq_true rfl)) dH_canRemove_41 ⟨Nat.le_of_ble_eq_true rfl, Nat.le_of_ble_eq_true rfl⟩) ?_
        refine lv_if_eq (pc := 44) (tgt := 51) hx hb dH_canRemove_44 (by decide) (fun hc => ?_) (fun hc => ?_)
        · replace hf := jit hf hc
          refine lv_iconst (pc := 51) (v := (0 : Int32)) hx hb dH_canRemove_51 (by decide) ?_
          obtain rfl := jsm hf
          exact j_zpr (pc := 52) S hr hlk (Or.inl rfl) dH_canRemove_52
        · replace hf := jif hf hc
          refine lv_iconst (pc := 47) (v := (1 : Int32)) hx hb dH_canRemove_47 (by decide) ?_
          refine lv_goto (pc := 48) (tgt := 52) hx hb dH_canRemove_48 (by decide) ?_
          obtain rfl := jsm hf
          exact j_zpr (pc := 52) S hr hlk (Or.inr rfl) dH_canRemove_52
set_option maxHeartbeats 4000000 in
set_option maxRecDepth 100000 in
theorem kH_canRemove (l : Launch) (D : va_G) (ca : Nat → ClassId) (ad : Nat → Nat) (sz : Nat) (σ : JS) (x1 : Int32) (x2 : Int32) (out : Int32) (hf : mH_canRemove σ x1 x2 = some out) : Met l yH_canRemove wsH_canRemove rmH_canRemove (jPre D (xT ca) (xC ca ad σ) (xN (va_A (xC ca ad σ) sz)) sz [.ref (ad 0), .int x1, .int x2]) (jSi out) 0 0 (fun _ => False) := by
  refine Met.ofW (cc := cH_canRemove) (maxL := 4) (ret := some .boolean) (by decide) rfl ?_
  intro p e s m args below meth c s₁ B hml hv
  obtain ⟨rfl, hsz, hP, hK, hD0, hN⟩ := hv
  subst hsz
  have hl := lv_entry [.ref (ad 0), .int x1, .int x2] (n := 4) (Nat.le_of_ble_eq_true rfl)
  rw [lg_entry_eq]
  generalize (lg_sl [.ref (ad 0), .int x1, .int x2] ++ List.replicate (4 - (lg_sl [.ref (ad 0), .int x1, .int x2]).length) Slot.unset).toArray = ls at hl ⊢
  exact bH_canRemove (fun q h => Or.inr h) ⟨B.exec, B.bytes, hml, findClass_of_methodNamed B.named, fun w h => atoms_spec (ws := wsH_canRemove) B.pre w (List.mem_cons_of_mem _ h)⟩ hN B.returns B.notSynchronized out σ x1 x2 ls hl ⟨hP, hD0.self, va_S.rf, hK⟩ hf

