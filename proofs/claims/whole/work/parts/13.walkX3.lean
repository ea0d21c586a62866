def rmH_countUnwanted : Room := { frames := 1, cells := 0, slots := 0, locals := 21 }
def mH_countUnwanted_L4 (σ : JS) (x1 : Int32) : Nat → Int32 → Int32 → Option (Int32)
  | 0, _, _ => none
  | n + 1, x2, x3 =>
    jrd σ 26 3 x1 fun v1 =>
    if v1 ≤ x3 then
    (some x2)
    else
    (jbn (mH_cellOf σ x1 x3) fun q4 =>
    jrd σ 15 24 q4 fun v6 =>
    jrd σ 29 8 x3 fun v9 =>
    if v6 = v9 then
    (mH_countUnwanted_L4 σ x1 n x2 (x3 + 1))
    else
    (mH_countUnwanted_L4 σ x1 n (x2 + 1) (x3 + 1)))
def mH_countUnwanted (σ : JS) (x1 : Int32) : Option (Int32) :=
  mH_countUnwanted_L4 σ x1 999 (0 : Int32) (0 : Int32)
set_option maxHeartbeats 4000000 in
set_option maxRecDepth 100000 in
theorem wmH_countUnwanted_L4 {p : Program} {l : Launch} {e : Env} {s : State} {m : MethodId} {args : Array Value} {below : List Frame} {meth : Method} {c : Code} {D : va_G} {ca : Nat → ClassId} {ad : Nat → Nat} {A : Nat → Prop} (hA : ∀ q, s.heap.size ≤ q → A q) (S : CallFix p m c cH_countUnwanted 4 s args jall RH) (hN : xN A s) (hr : meth.sig.returnType = some .int) (hlk : meth.locks = false) (out : Int32) (σ : JS) (x1 : Int32) : ∀ (n : Nat) (x2 : Int32) (x3 : Int32) (ls : Array Slot) , lv_has ls 4 [(0, .ref (ad 0)), (1, .int x1), (2, .int x2), (3, .int x3)] → jH D (xT ca) (xC ca ad σ) A s.heap s.heap [] s → mH_countUnwanted_L4 σ x1 n x2 x3 = some out → W p l e (headSpec wsH_countUnwanted rmH_countUnwanted).room s m args below meth c s.heap [] 0 0 (MQ below (jSi out) args s 0 0 (fun _ => False)) (F0 m 4 ls []) := by
  have hx := S.1
  have hb := S.2.1
  intro n
  induction n with
  | zero => intro x2 x3 ls hl hw hf; cases hf
  | succ n ih =>
    intro x2 x3 ls hl hw hf
    rw [mH_countUnwanted_L4] at hf
    refine lv_iload_n (pc := 4) hx hb dH_countUnwanted_4 rfl (lv_at hl 3 rfl) ?_
    refine lv_aload_n (pc := 5) hx hb dH_countUnwanted_5 rfl (lv_at hl 0 rfl) ?_
    refine j_get (pc := 6) (v := .ref (ad 26)) S hw inH 0 0 5 xg_0 rfl (by decide) k_167 rfl dH_countUnwanted_6 ?_
    refine lv_iload_n (pc := 9) hx hb dH_countUnwanted_9 rfl (lv_at hl 1 rfl) ?_
    have hg := jrd_e hf; clear hf; obtain ⟨h2, v1, e3, hf⟩ := hg
    refine j_iald (pc := 10) S hw 26 20 xg_26 xt_26 h2 e3 dH_countUnwanted_10 ?_
    refine lv_icmp_ge (pc := 11) (tgt := 45) hx hb dH_countUnwanted_11 (by decide) (fun hc => ?_) (fun hc => ?_)
    · replace hf := jit hf hc
      refine lv_iload_n (pc := 45) hx hb dH_countUnwanted_45 rfl (lv_at hl 2 rfl) ?_
      obtain rfl := jsm hf
      exact j_ipr (pc := 46) S hr hlk dH_countUnwanted_46
    · replace hf := jif hf hc
      refine lv_aload_n (pc := 14) hx hb dH_countUnwanted_14 rfl (lv_at hl 0 rfl) ?_
      refine j_get (pc := 15) (v := .ref (ad 2)) S hw inH 0 0 1 xg_0 rfl (by decide) k_163 rfl dH_countUnwanted_15 ?_
      refine j_get (pc := 18) (v := .ref (ad 15)) S hw inS 2 2 0 xg_2 rfl (by decide) k_84 rfl dH_countUnwanted_18 ?_
      refine lv_iload_n (pc := 21) hx hb dH_countUnwanted_21 rfl (lv_at hl 1 rfl) ?_
      refine lv_iload_n (pc := 22) hx hb dH_countUnwanted_22 rfl (lv_at hl 3 rfl) ?_
      have hg := jbn_e hf; clear hf; obtain ⟨q4, h5, hf⟩ := hg
      refine j_cpi (pc := 23) (v := q4) (va_runS (As := [.int x1, .int x3]) (rest := [.ref (ad 15)]) S (kH_cellOf l D ca ad _ σ x1 x3 q4 h5) (cwS 2 S.2.2.2.2 (jgS k_211 k_212 k_1 k_213) rfl rfl rfl (by decide +kernel) ⟨Nat.le_of_ble_eq_true rfl, Nat.le_of_ble_eq_true rfl⟩) (j_preS hw xN_b (xN_to hN hw hA)) rfl rfl hl.1 rfl (lv_room (Nat.le_of_ble_eq_true rfl)) dH_countUnwanted_23 ⟨Nat.le_of_ble_eq_true rfl, Nat.le_of_ble_eq_true rfl⟩) ?_
      have hg := jrd_e hf; clear hf; obtain ⟨h7, v6, e8, hf⟩ := hg
      refine j_iald (pc := 26) S hw 15 9 xg_15 xt_15 h7 e8 dH_countUnwanted_26 ?_
      refine lv_aload_n (pc := 27) hx hb dH_countUnwanted_27 rfl (lv_at hl 0 rfl) ?_
      refine j_get (pc := 28) (v := .ref (ad 29)) S hw inH 0 0 8 xg_0 rfl (by decide) k_170 rfl dH_countUnwanted_28 ?_
      refine lv_iload_n (pc := 31) hx hb dH_countUnwanted_31 rfl (lv_at hl 3 rfl) ?_
      have hg := jrd_e hf; clear hf; obtain ⟨h10, v9, e11, hf⟩ := hg
      refine j_iald (pc := 32) S hw 29 23 xg_29 xt_29 h10 e11 dH_countUnwanted_32 ?_
      refine lv_icmp_eq (pc := 33) (tgt := 39) hx hb dH_countUnwanted_33 (by decide) (fun hc => ?_) (fun hc => ?_)
      · replace hf := jit hf hc
        refine lv_iinc (pc := 39) (v := (x3 + 1)) (k := 3) (lv' := [(3, .int (x3 + 1)), (0, .ref (ad 0)), (1, .int x1), (2, .int x2)]) hx hb dH_countUnwanted_39 hl rfl (j_inc _ (by decide)) (by decide) rfl (fun ls hl => ?_)
        refine lv_goto (pc := 42) (tgt := 4) hx hb dH_countUnwanted_42 (by decide) ?_
        exact ih x2 (x3 + 1) _ (lv_sub hl [1, 2, 3, 0] rfl) hw hf
      · replace hf := jif hf hc
        refine lv_iinc (pc := 36) (v := (x2 + 1)) (k := 2) (lv' := [(2, .int (x2 + 1)), (0, .ref (ad 0)), (1, .int x1), (3, .int x3)]) hx hb dH_countUnwanted_36 hl rfl (j_inc _ (by decide)) (by decide) rfl (fun ls hl => ?_)
        refine lv_iinc (pc := 39) (v := (x3 + 1)) (k := 3) (lv' := [(3, .int (x3 + 1)), (2, .int (x2 + 1)), (0, .ref (ad 0)), (1, .int x1)]) hx hb dH_countUnwanted_39 hl rfl (j_inc _ (by decide)) (by decide) rfl (fun ls hl => ?_)
        refine lv_goto (pc := 42) (tgt := 4) hx hb dH_countUnwanted_42 (by decide) ?_
        exact ih (x2 + 1) (x3 + 1) _ (lv_sub hl [2, 3, 1, 0] rfl) hw hf
set_option maxHeartbeats 4000000 in
set_option maxRecDepth 100000 in
theorem bH_countUnwanted {p : Program} {l : Launch} {e : Env} {s : State} {m : MethodId} {args : Array Value} {below : List Frame} {meth : Method} {c : Code} {D : va_G} {ca : Nat → ClassId} {ad : Nat → Nat} {A : Nat → Prop} (hA : ∀ q, s.heap.size ≤ q → A q) (S : CallFix p m c cH_countUnwanted 4 s args jall RH) (hN : xN A s) (hr : meth.sig.returnType = some .int) (hlk : meth.locks = false) (out : Int32) (σ : JS) (x1 : Int32) (ls : Array Slot) (hl : lv_has ls 4 [(0, .ref (ad 0)), (1, .int x1)]) (hw : jH D (xT ca) (xC ca ad σ) A s.heap s.heap [] s) (hf : mH_countUnwanted σ x1 = some out) : W p l e (headSpec wsH_countUnwanted rmH_countUnwanted).room s m args below meth c s.heap [] 0 0 (MQ below (jSi out) args s 0 0 (fun _ => False)) (F0 m 0 ls []) := by
  have hx := S.1
  have hb := S.2.1
  unfold mH_countUnwanted at hf
  refine lv_iconst (pc := 0) (v := (0 : Int32)) hx hb dH_countUnwanted_0 (by decide) ?_
  refine lv_istore_n (pc := 1) (lv' := [(2, .int (0 : Int32)), (0, .ref (ad 0)), (1, .int x1)]) hx hb dH_countUnwanted_1 rfl hl (by decide) rfl (fun ls hl => ?_)
  refine lv_iconst (pc := 2) (v := (0 : Int32)) hx hb dH_countUnwanted_2 (by decide) ?_
  refine lv_istore_n (pc := 3) (lv' := [(3, .int (0 : Int32)), (2, .int (0 : Int32)), (0, .ref (ad 0)), (1, .int x1)]) hx hb dH_countUnwanted_3 rfl hl (by decide) rfl (fun ls hl => ?_)
  exact wmH_countUnwanted_L4 hA S hN hr hlk out σ x1 999 (0 : Int32) (0 : Int32) _ (lv_sub hl [2, 3, 1, 0] rfl) hw hf
set_option maxHeartbeats 4000000 in
set_option maxRecDepth 100000 in
theorem kH_countUnwanted (l : Launch) (D : va_G) (ca : Nat → ClassId) (ad : Nat → Nat) (sz : Nat) (σ : JS) (x1 : Int32) (out : Int32) (hf : mH_countUnwanted σ x1 = some out) : Met l yH_countUnwanted wsH_countUnwanted rmH_countUnwanted (jPre D (xT ca) (xC ca ad σ) (xN (va_A (xC ca ad σ) sz)) sz [.ref (ad 0), .int x1]) (jSi out) 0 0 (fun _ => False) := by
  refine Met.ofW (cc := cH_countUnwanted) (maxL := 4) (ret := some .int) (by decide) rfl ?_
  intro p e s m args below meth c s₁ B hml hv
  obtain ⟨rfl, hsz, hP, hK, hD0, hN⟩ := hv
  subst hsz
  have hl := lv_entry [.ref (ad 0), .int x1] (n := 4) (Nat.le_of_ble_eq_true rfl)
  rw [lg_entry_eq]
  generalize (lg_sl [.ref (ad 0), .int x1] ++ List.replicate (4 - (lg_sl [.ref (ad 0), .int x1]).length) Slot.unset).toArray = ls at hl ⊢
  exact bH_countUnwanted (fun q h => Or.inr h) ⟨B.exec, B.bytes, hml, findClass_of_methodNamed B.named, fun w h => atoms_spec (ws := wsH_countUnwanted) B.pre w (List.mem_cons_of_mem _ h)⟩ hN B.returns B.notSynchronized out σ x1 ls hl ⟨hP, hD0.self, va_S.rf, hK⟩ hf

def rmJ_refusesOwnChanges : Room := { frames := 2, cells := 0, slots := 0, locals := 43 }
def mJ_refusesOwnChanges (σ : JS) (x1 : Int32) : Option (Int32) :=
  if x1 ≤ 0 then
  (some (0 : Int32))
  else
  (jbn (mJ_room σ ) fun q1 =>
  jbn (mJ_reserve σ ) fun q3 =>
  if q3 ≤ ((q1 - x1) - (1 : Int32)) then
  (some (0 : Int32))
  else
  (some (1 : Int32)))
set_option maxHeartbeats 4000000 in
set_option maxRecDepth 100000 in
theorem bJ_refusesOwnChanges {p : Program} {l : Launch} {e : Env} {s : State} {m : MethodId} {args : Array Value} {below : List Frame} {meth : Method} {c : Code} {D : va_G} {ca : Nat → ClassId} {ad : Nat → Nat} {A : Nat → Prop} (hA : ∀ q, s.heap.size ≤ q → A q) (S : CallFix p m c cJ_refusesOwnChanges 2 s args jall RJ) (hN : xN A s) (hr : meth.sig.returnType = some .boolean) (hlk : meth.locks = false) (out : Int32) (σ : JS) (x1 : Int32) (ls : Array Slot) (hl : lv_has ls 2 [(0, .ref (ad 1)), (1, .int x1)]) (hw : jH D (xT ca) (xC ca ad σ) A s.heap s.heap [] s) (hf : mJ_refusesOwnChanges σ x1 = some out) : W p l e (headSpec wsJ_refusesOwnChanges rmJ_refusesOwnChanges).room s m args below meth c s.heap [] 0 0 (MQ below (jSi out) args s 0 0 (fun _ => False)) (F0 m 0 ls []) := by
  have hx := S.1
  have hb := S.2.1
  unfold mJ_refusesOwnChanges at hf
  refine lv_iload_n (pc := 0) hx hb dJ_refusesOwnChanges_0 rfl (lv_at hl 1 rfl) ?_
  refine lv_if_le (pc := 1) (tgt := 23) hx hb dJ_refusesOwnChanges_1 (by decide) (fun hc => ?_) (fun hc => ?_)
  · replace hf := jit hf hc
    refine lv_iconst (pc := 23) (v := (0 : Int32)) hx hb dJ_refusesOwnChanges_23 (by decide) ?_
    obtain rfl := jsm hf
    exact j_zpr (pc := 24) S hr hlk (Or.inl rfl) dJ_refusesOwnChanges_24
  · replace hf := jif hf hc
    refine lv_aload_n (pc := 4) hx hb dJ_refusesOwnChanges_4 rfl (lv_at hl 0 rfl) ?_
    have hg := jbn_e hf; clear hf; obtain ⟨q1, h2, hf⟩ := hg
    refine j_cpi (pc := 5) (v := q1) (va_runV (As := []) (rest := []) S (kJ_room l D ca ad _ σ  q1 h2) (cwV 0 S.2.2.2.2 (jgV k_382 k_384 ks_2 k_2 k_385) rfl rfl rfl (by decide +kernel) ⟨Nat.le_of_ble_eq_true rfl, Nat.le_of_ble_eq_true rfl⟩) (j_preV (As := []) hw xN_b (xN_to hN hw hA) rfl xg_1) rfl rfl hl.1 rfl (lv_room (Nat.le_of_ble_eq_true rfl)) dJ_refusesOwnChanges_5 ⟨Nat.le_of_ble_eq_true rfl, Nat.le_of_ble_eq_true rfl⟩) ?_
    refine lv_iload_n (pc := 8) hx hb dJ_refusesOwnChanges_8 rfl (lv_at hl 1 rfl) ?_
    refine lv_isub (pc := 9) hx hb dJ_refusesOwnChanges_9 ?_
    refine lv_iconst (pc := 10) (v := (1 : Int32)) hx hb dJ_refusesOwnChanges_10 (by decide) ?_
    refine lv_isub (pc := 11) hx hb dJ_refusesOwnChanges_11 ?_
    refine lv_aload_n (pc := 12) hx hb dJ_refusesOwnChanges_12 rfl (lv_at hl 0 rfl) ?_
    have hg := jbn_e hf; clear hf; obtain ⟨q3, h4, hf⟩ := hg
    refine j_cpi (pc := 13) (v := q3) (va_runV (As := []) (rest := [.int ((q1 - x1) - (1 : Int32))]) S (kJ_reserve l D ca ad _ σ  q3 h4) (cwV 0 S.2.2.2.2 (jgV k_389 k_391 ks_3 k_2 k_392) rfl rfl rfl (by decide +kernel) ⟨Nat.le_of_ble_eq_true rfl, Nat.le_of_ble_eq_true rfl⟩) (j_preV (As := []) hw xN_b (xN_to hN hw hA) rfl xg_1) rfl rfl hl.1 rfl (lv_room (Nat.le_of_ble_eq_true rfl)) dJ_refusesOwnChanges_13 ⟨Nat.le_of_ble_eq_true rfl, Nat.le_of_ble_eq_true rfl⟩) ?_
    refine lv_icmp_ge (pc := 16) (tgt := 23) hx hb dJ_refusesOwnChanges_16 (by decide) (fun hc => ?_) (fun hc => ?_)
    · replace hf := jit hf hc
      refine lv_iconst (pc := 23) (v := (0 : Int32)) hx hb dJ_refusesOwnChanges_23 (by decide) ?_
      obtain rfl := jsm hf
      exact j_zpr (pc := 24) S hr hlk (Or.inl rfl) dJ_refusesOwnChanges_24
    · replace hf := jif hf hc
      refine lv_iconst (pc := 19) (v := (1 : Int32)) hx hb dJ_refusesOwnChanges_19 (by decide) ?_
      refine lv_goto (pc := 20) (tgt := 24) hx hb dJ_refusesOwnChanges_20 (by decide) ?_
      obtain rfl := jsm hf
      exact j_zpr (pc := 24) S hr hlk (Or.inr rfl) dJ_refusesOwnChanges_24
set_option maxHeartbeats 4000000 in
set_option maxRecDepth 100000 in
theorem kJ_refusesOwnChanges (l : Launch) (D : va_G) (ca : Nat → ClassId) (ad : Nat → Nat) (sz : Nat) (σ : JS) (x1 : Int32) (out : Int32) (hf : mJ_refusesOwnChanges σ x1 = some out) : Met l yJ_refusesOwnChanges wsJ_refusesOwnChanges rmJ_refusesOwnChanges (jPre D (xT ca) (xC ca ad σ) (xN (va_A (xC ca ad σ) sz)) sz [.ref (ad 1), .int x1]) (jSi out) 0 0 (fun _ => False) := by
  refine Met.ofW (cc := cJ_refusesOwnChanges) (maxL := 2) (ret := some .boolean) (by decide) rfl ?_
  intro p e s m args below meth c s₁ B hml hv
  obtain ⟨rfl, hsz, hP, hK, hD0, hN⟩ := hv
  subst hsz
  have hl := lv_entry [.ref (ad 1), .int x1] (n := 2) (Nat.le_of_ble_eq_true rfl)
  rw [lg_entry_eq]
  generalize (lg_sl [.ref (ad 1), .int x1] ++ List.replicate (2 - (lg_sl [.ref (ad 1), .int x1]).length) Slot.unset).toArray = ls at hl ⊢
  exact bJ_refusesOwnChanges (fun q h => Or.inr h) ⟨B.exec, B.bytes, hml, findClass_of_methodNamed B.named, fun w h => atoms_spec (ws := wsJ_refusesOwnChanges) B.pre w (List.mem_cons_of_mem _ h)⟩ hN B.returns B.notSynchronized out σ x1 ls hl ⟨hP, hD0.self, va_S.rf, hK⟩ hf

def rmnH_bringToWanted : Room := { frames := 6, cells := 0, slots := 0, locals := 87 }
def rmxH_bringToWanted : Room := { frames := 6, cells := 1, slots := 6, locals := 87 }
def mH_bringToWanted_L28 (k : JS → Int32 → Option (Nat × Int32 × JS)) (x1 : Int32) (x2 : Int32) (x3 : Int32) : Nat → JS → Int32 → Option (Nat × Int32 × JS)
  | 0, _, _ => none
  | n + 1, σ, x4 =>
    jrd σ 26 3 x1 fun v5 =>
    if v5 ≤ x4 then
    (k σ x4)
    else
    (jbn (mH_cellOf σ x1 x4) fun q8 =>
    jrd σ 15 24 q8 fun v10 =>
    jrd σ 29 8 x4 fun v13 =>
    if v10 = v13 then
    (mH_bringToWanted_L28 k x1 x2 x3 n σ (x4 + 1))
    else
    (jrd σ 29 8 x4 fun v16 =>
    jbn (mH_writeChange σ (3 : Int32) q8 v16) fun q19 =>
    mH_bringToWanted_L28 k x1 x2 x3 n q19 (x4 + 1)))
def mH_bringToWanted (σ : JS) (x1 : Int32) (x2 : Int32) : Option (Nat × Int32 × JS) :=
  jbn (mH_countUnwanted σ x1) fun q1 =>
  jbn (mJ_refusesOwnChanges σ q1) fun q3 =>
  if q3 = 0 then
  (mH_bringToWanted_L28 (fun σ21 z22 =>
  if q1 ≤ 0 then
  (jwr σ21 27 3 x1 x2 fun σ23 =>
  some (0, q1, σ23))
  else
  (jbn (mJ_addEnd σ21 (2 : Int32) (3 : Int32)) fun q26 =>
  jwr q26 27 3 x1 x2 fun σ28 =>
  some (0, q1, σ28))) x1 x2 q1 999 σ (0 : Int32))
  else
  (some (2, 0, σ))
set_option maxHeartbeats 4000000 in
set_option maxRecDepth 100000 in
theorem wnmH_bringToWanted_L28g {p : Program} {l : Launch} {e : Env} {s : State} {m : MethodId} {args : Array Value} {below : List Frame} {meth : Method} {c : Code} {D : va_G} {ca : Nat → ClassId} {ad : Nat → Nat} {A : Nat → Prop} (hA : ∀ q, s.heap.size ≤ q → A q) (S : CallFix p m c cH_bringToWanted 6 s args jall RH) (hN : xN A s) (hr : meth.sig.returnType = some .int) (hlk : meth.locks = false) (vo : Int32) (σo : JS) (k : JS → Int32 → Option (Nat × Int32 × JS)) (x1 : Int32) (x2 : Int32) (x3 : Int32) (hk : ∀ (σ : JS) (x4 : Int32) (ls : Array Slot) (H : Heap) (locs : List Loc), lv_has ls 6 [(0, .ref (ad 0)), (1, .int x1), (2, .int x2), (3, .int x3), (4, .int x4)] → jH D (xT ca) (xC ca ad σ) A s.heap H locs s → k σ x4 = some (0, vo, σo) → W p l e (headSpec wsH_bringToWanted rmnH_bringToWanted).room s m args below meth c H locs 0 0 (MQ below (jQi D (xT ca) (xC ca ad) A vo σo) args s 0 0 A) (F0 m 87 ls [])) : ∀ (n : Nat) (σ : JS) (x4 : Int32) (ls : Array Slot) (H : Heap) (locs : List Loc), lv_has ls 6 [(0, .ref (ad 0)), (1, .int x1), (2, .int x2), (3, .int x3), (4, .int x4)] → jH D (xT ca) (xC ca ad σ) A s.heap H locs s → mH_bringToWanted_L28 k x1 x2 x3 n σ x4 = some (0, vo, σo) → W p l e (headSpec wsH_bringToWanted rmnH_bringToWanted).room s m args below meth c H locs 0 0 (MQ below (jQi D (xT ca) (xC ca ad) A vo σo) args s 0 0 A) (F0 m 28 ls []) := by
  have hx := S.1
  have hb := S.2.1
  intro n
  induction n with
  | zero => intro σ x4 ls H locs hl hw hf; cases hf
  | succ n ih =>
    intro σ x4 ls H locs hl hw hf
    rw [mH_bringToWanted_L28] at hf
    refine lv_iload (pc := 28) hx hb dH_bringToWanted_28 (lv_at hl 4 rfl) ?_
    refine lv_aload_n (pc := 30) hx hb dH_bringToWanted_30 rfl (lv_at hl 0 rfl) ?_
    refine j_get (pc := 31) (v := .ref (ad 26)) S hw inH 0 0 5 xg_0 rfl (by decide) k_167 rfl dH_bringToWanted_31 ?_
    refine lv_iload_n (pc := 34) hx hb dH_bringToWanted_34 rfl (lv_at hl 1 rfl) ?_
    have hg := jrd_e hf; clear hf; obtain ⟨h6, v5, e7, hf⟩ := hg
    refine j_iald (pc := 35) S hw 26 20 xg_26 xt_26 h6 e7 dH_bringToWanted_35 ?_
    refine lv_icmp_ge (pc := 36) (tgt := 87) hx hb dH_bringToWanted_36 (by decide) (fun hc => ?_) (fun hc => ?_)
    · replace hf := jit hf hc
      exact hk σ x4 _ _ _ (lv_sub hl [0, 1, 2, 3, 4] rfl) hw hf
    · replace hf := jif hf hc
      refine lv_iload_n (pc := 39) hx hb dH_bringToWanted_39 rfl (lv_at hl 1 rfl) ?_
      refine lv_iload (pc := 40) hx hb dH_bringToWanted_40 (lv_at hl 4 rfl) ?_
      have hg := jbn_e hf; clear hf; obtain ⟨q8, h9, hf⟩ := hg
      refine j_cpi (pc := 42) (v := q8) (va_runS (As := [.int x1, .int x4]) (rest := []) S (kH_cellOf l D ca ad _ σ x1 x4 q8 h9) (cwS 2 S.2.2.2.2 (jgS k_211 k_212 k_1 k_213) rfl rfl rfl (by decide +kernel) ⟨Nat.le_of_ble_eq_true rfl, Nat.le_of_ble_eq_true rfl⟩) (j_preS hw xN_b (xN_to hN hw hA)) rfl rfl hl.1 rfl (lv_room (Nat.le_of_ble_eq_true rfl)) dH_bringToWanted_42 ⟨Nat.le_of_ble_eq_true rfl, Nat.le_of_ble_eq_true rfl⟩) ?_
      refine lv_istore (pc := 45) (lv' := [(5, .int q8), (0, .ref (ad 0)), (1, .int x1), (2, .int x2), (3, .int x3), (4, .int x4)]) hx hb dH_bringToWanted_45 hl (by decide) rfl (fun ls hl => ?_)
      refine lv_aload_n (pc := 47) hx hb dH_bringToWanted_47 rfl (lv_at hl 1 rfl) ?_
      refine j_get (pc := 48) (v := .ref (ad 2)) S hw inH 0 0 1 xg_0 rfl (by decide) k_163 rfl dH_bringToWanted_48 ?_
      refine j_get (pc := 51) (v := .ref (ad 15)) S hw inS 2 2 0 xg_2 rfl (by decide) k_84 rfl dH_bringToWanted_51 ?_
      refine lv_iload (pc := 54) hx hb dH_bringToWanted_54 (lv_at hl 0 rfl) ?_
      have hg := jrd_e hf; clear hf; obtain ⟨h11, v10, e12, hf⟩ := hg
      refine j_iald (pc := 56) S hw 15 9 xg_15 xt_15 h11 e12 dH_bringToWanted_56 ?_
      refine lv_aload_n (pc := 57) hx hb dH_bringToWanted_57 rfl (lv_at hl 1 rfl) ?_
      refine j_get (pc := 58) (v := .ref (ad 29)) S hw inH 0 0 8 xg_0 rfl (by decide) k_170 rfl dH_bringToWanted_58 ?_
      refine lv_iload (pc := 61) hx hb dH_bringToWanted_61 (lv_at hl 5 rfl) ?_
      have hg := jrd_e hf; clear hf; obtain ⟨h14, v13, e15, hf⟩ := hg
      refine j_iald (pc := 63) S hw 29 23 xg_29 xt_29 h14 e15 dH_bringToWanted_63 ?_
      refine lv_icmp_eq (pc := 64) (tgt := 81) hx hb dH_bringToWanted_64 (by decide) (fun hc => ?_) (fun hc => ?_)
      · replace hf := jit hf hc
        refine lv_iinc (pc := 81) (v := (x4 + 1)) (k := 5) (lv' := [(4, .int (x4 + 1)), (5, .int q8), (0, .ref (ad 0)), (1, .int x1), (2, .int x2), (3, .int x3)]) hx hb dH_bringToWanted_81 hl rfl (j_inc _ (by decide)) (by decide) rfl (fun ls hl => ?_)
        refine lv_goto (pc := 84) (tgt := 28) hx hb dH_bringToWanted_84 (by decide) ?_
        exact ih σ (x4 + 1) _ _ _ (lv_sub hl [2, 3, 4, 5, 0] rfl) hw hf
      · replace hf := jif hf hc
        refine lv_aload_n (pc := 67) hx hb dH_bringToWanted_67 rfl (lv_at hl 1 rfl) ?_
        refine lv_iconst (pc := 68) (v := (3 : Int32)) hx hb dH_bringToWanted_68 (by decide) ?_
        refine lv_iload (pc := 69) hx hb dH_bringToWanted_69 (lv_at hl 0 rfl) ?_
        refine lv_aload_n (pc := 71) hx hb dH_bringToWanted_71 rfl (lv_at hl 1 rfl) ?_
        refine j_get (pc := 72) (v := .ref (ad 29)) S hw inH 0 0 8 xg_0 rfl (by decide) k_170 rfl dH_bringToWanted_72 ?_
        refine lv_iload (pc := 75) hx hb dH_bringToWanted_75 (lv_at hl 5 rfl) ?_
        have hg := jrd_e hf; clear hf; obtain ⟨h17, v16, e18, hf⟩ := hg
        refine j_iald (pc := 77) S hw 29 23 xg_29 xt_29 h17 e18 dH_bringToWanted_77 ?_
        have hg := jbn_e hf; clear hf; obtain ⟨q19, h20, hf⟩ := hg
        refine j_callv (pc := 78) (C := xC ca ad) (σ' := q19) hw hA (va_runV (As := [.int (3 : Int32), .int q8, .int v16]) (rest := []) S (kH_writeChange l D ca ad _ σ (3 : Int32) q8 v16 q19 h20) (cwV 3 S.2.2.2.2 (jgV k_393 k_395 ks_7 k_1 k_396) rfl rfl rfl (by decide +kernel) ⟨Nat.le_of_ble_eq_true rfl, Nat.le_of_ble_eq_true rfl⟩) (j_preV (As := [.int (3 : Int32), .int q8, .int v16]) hw xN_b (xN_to hN hw hA) rfl xg_0) rfl rfl hl.1 rfl (lv_room (Nat.le_of_ble_eq_true rfl)) dH_bringToWanted_78 ⟨Nat.le_of_ble_eq_true rfl, Nat.le_of_ble_eq_true rfl⟩) (fun H locs hw => ?_)
        refine lv_iinc (pc := 81) (v := (x4 + 1)) (k := 5) (lv' := [(4, .int (x4 + 1)), (5, .int q8), (0, .ref (ad 0)), (1, .int x1), (2, .int x2), (3, .int x3)]) hx hb dH_bringToWanted_81 hl rfl (j_inc _ (by decide)) (by decide) rfl (fun ls hl => ?_)
        refine lv_goto (pc := 84) (tgt := 28) hx hb dH_bringToWanted_84 (by decide) ?_
        exact ih q19 (x4 + 1) _ _ _ (lv_sub hl [2, 3, 4, 5, 0] rfl) hw hf
set_option maxHeartbeats 4000000 in
set_option maxRecDepth 100000 in
theorem bnH_bringToWanted {p : Program} {l : Launch} {e : Env} {s : State} {m : MethodId} {args : Array Value} {below : List Frame} {meth : Method} {c : Code} {D : va_G} {ca : Nat → ClassId} {ad : Nat → Nat} {A : Nat → Prop} (hA : ∀ q, s.heap.size ≤ q → A q) (S : CallFix p m c cH_bringToWanted 6 s args jall RH) (hN : xN A s) (hr : meth.sig.returnType = some .int) (hlk : meth.locks = false) (vo : Int32) (σo : JS) (σ : JS) (x1 : Int32) (x2 : Int32) (ls : Array Slot) (hl : lv_has ls 6 [(0, .ref (ad 0)), (1, .int x1), (2, .int x2)]) (hw : jH D (xT ca) (xC ca ad σ) A s.heap s.heap [] s) (hf : mH_bringToWanted σ x1 x2 = some (0, vo, σo)) : W p l e (headSpec wsH_bringToWanted rmnH_bringToWanted).room s m args below meth c s.heap [] 0 0 (MQ below (jQi D (xT ca) (xC ca ad) A vo σo) args s 0 0 A) (F0 m 0 ls []) := by
  have hx := S.1
  have hb := S.2.1
  unfold mH_bringToWanted at hf
  refine lv_aload_n (pc := 0) hx hb dH_bringToWanted_0 rfl (lv_at hl 0 rfl) ?_
  refine lv_iload_n (pc := 1) hx hb dH_bringToWanted_1 rfl (lv_at hl 1 rfl) ?_
  have hg := jbn_e hf; clear hf; obtain ⟨q1, h2, hf⟩ := hg
  refine j_cpi (pc := 2) (v := q1) (va_runV (As := [.int x1]) (rest := []) S (kH_countUnwanted l D ca ad _ σ x1 q1 h2) (cwV 1 S.2.2.2.2 (jgV k_467 k_469 ks_10 k_1 k_470) rfl rfl rfl (by decide +kernel) ⟨Nat.le_of_ble_eq_true rfl, Nat.le_of_ble_eq_true rfl⟩) (j_preV (As := [.int x1]) hw xN_b (xN_to hN hw hA) rfl xg_0) rfl rfl hl.1 rfl (lv_room (Nat.le_of_ble_eq_true rfl)) dH_bringToWanted_2 ⟨Nat.le_of_ble_eq_true rfl, Nat.le_of_ble_eq_true rfl⟩) ?_
  refine lv_istore_n (pc := 5) (lv' := [(3, .int q1), (0, .ref (ad 0)), (1, .int x1), (2, .int x2)]) hx hb dH_bringToWanted_5 rfl hl (by decide) rfl (fun ls hl => ?_)
  refine lv_aload_n (pc := 6) hx hb dH_bringToWanted_6 rfl (lv_at hl 1 rfl) ?_
  refine j_get (pc := 7) (v := .ref (ad 1)) S hw inH 0 0 0 xg_0 rfl (by decide) k_162 rfl dH_bringToWanted_7 ?_
  refine lv_iload_n (pc := 10) hx hb dH_bringToWanted_10 rfl (lv_at hl 0 rfl) ?_
  have hg := jbn_e hf; clear hf; obtain ⟨q3, h4, hf⟩ := hg
  refine j_cpi (pc := 11) (v := q3) (va_runV (As := [.int q1]) (rest := []) S (kJ_refusesOwnChanges l D ca ad _ σ q1 q3 h4) (cwV 1 S.2.2.2.2 (jgV k_471 k_472 k_473 k_2 k_474) rfl rfl rfl (by decide +kernel) ⟨Nat.le_of_ble_eq_true rfl, Nat.le_of_ble_eq_true rfl⟩) (j_preV (As := [.int q1]) hw xN_b (xN_to hN hw hA) rfl xg_1) rfl rfl hl.1 rfl (lv_room (Nat.le_of_ble_eq_true rfl)) dH_bringToWanted_11 ⟨Nat.le_of_ble_eq_true rfl, Nat.le_of_ble_eq_true rfl⟩) ?_
  refine lv_if_eq (pc := 14) (tgt := 25) hx hb dH_bringToWanted_14 (by decide) (fun hc => ?_) (fun hc => ?_)
  · replace hf := jit hf hc
    refine lv_iconst (pc := 25) (v := (0 : Int32)) hx hb dH_bringToWanted_25 (by decide) ?_
    refine lv_istore (pc := 26) (lv' := [(4, .int (0 : Int32)), (3, .int q1), (0, .ref (ad 0)), (1, .int x1), (2, .int x2)]) hx hb dH_bringToWanted_26 hl (by decide) rfl (fun ls hl => ?_)
    refine wnmH_bringToWanted_L28g hA S hN hr hlk vo σo _ x1 x2 q1 (fun σ21 z22 ls H locs hl hw hf => ?_) 999 σ (0 : Int32) _ _ _ (lv_sub hl [2, 3, 4, 1, 0] rfl) hw hf
    try dsimp only at hf
    refine lv_iload_n (pc := 87) hx hb dH_bringToWanted_87 rfl (lv_at hl 3 rfl) ?_
    refine lv_if_le (pc := 88) (tgt := 100) hx hb dH_bringToWanted_88 (by decide) (fun hc => ?_) (fun hc => ?_)
    · replace hf := jit hf hc
      refine lv_aload_n (pc := 100) hx hb dH_bringToWanted_100 rfl (lv_at hl 0 rfl) ?_
      refine j_get (pc := 101) (v := .ref (ad 27)) S hw inH 0 0 6 xg_0 rfl (by decide) k_168 rfl dH_bringToWanted_101 ?_
      refine lv_iload_n (pc := 104) hx hb dH_bringToWanted_104 rfl (lv_at hl 1 rfl) ?_
      refine lv_iload_n (pc := 105) hx hb dH_bringToWanted_105 rfl (lv_at hl 2 rfl) ?_
      have hg := jwr_e hf; clear hf; obtain ⟨h24, σ23, e25, hf⟩ := hg
      refine j_iast (pc := 106) (ws' := xC ca ad σ23) S hw 27 21 xg_27 xt_27 h24 (by rw [e25]; exact xs_27) dH_bringToWanted_106 (fun H locs hw => ?_)
      refine lv_iload_n (pc := 107) hx hb dH_bringToWanted_107 rfl (lv_at hl 3 rfl) ?_
      obtain ⟨rfl, rfl⟩ := jo0 hf
      exact j_iret (pc := 108) S hw hr hlk dH_bringToWanted_108
    · replace hf := jif hf hc
      refine lv_aload_n (pc := 91) hx hb dH_bringToWanted_91 rfl (lv_at hl 0 rfl) ?_
      refine j_get (pc := 92) (v := .ref (ad 1)) S hw inH 0 0 0 xg_0 rfl (by decide) k_162 rfl dH_bringToWanted_92 ?_
      refine lv_iconst (pc := 95) (v := (2 : Int32)) hx hb dH_bringToWanted_95 (by decide) ?_
      refine lv_iconst (pc := 96) (v := (3 : Int32)) hx hb dH_bringToWanted_96 (by decide) ?_
      have hg := jbn_e hf; clear hf; obtain ⟨q26, h27, hf⟩ := hg
      refine j_callv (pc := 97) (C := xC ca ad) (σ' := q26) hw hA (va_runV (As := [.int (2 : Int32), .int (3 : Int32)]) (rest := []) S (kJ_addEnd l D ca ad _ σ21 (2 : Int32) (3 : Int32) q26 h27) (cwV 2 S.2.2.2.2 (jgV k_425 k_426 k_427 k_2 k_428) rfl rfl rfl (by decide +kernel) ⟨Nat.le_of_ble_eq_true rfl, Nat.le_of_ble_eq_true rfl⟩) (j_preV (As := [.int (2 : Int32), .int (3 : Int32)]) hw xN_b (xN_to hN hw hA) rfl xg_1) rfl rfl hl.1 rfl (lv_room (Nat.le_of_ble_eq_true rfl)) dH_bringToWanted_97 ⟨Nat.le_of_ble_eq_true rfl, Nat.le_of_ble_eq_true rfl⟩) (fun H locs hw => ?_)
      refine lv_aload_n (pc := 100) hx hb dH_bringToWanted_100 rfl (lv_at hl 0 rfl) ?_
      refine j_get (pc := 101) (v := .ref (ad 27)) S hw inH 0 0 6 xg_0 rfl (by decide) k_168 rfl dH_bringToWanted_101 ?_
      refine lv_iload_n (pc := 104) hx hb dH_bringToWanted_104 rfl (lv_at hl 1 rfl) ?_
      refine lv_iload_n (pc := 105) hx hb dH_bringToWanted_105 rfl (lv_at hl 2 rfl) ?_
      have hg := jwr_e hf; clear hf; obtain ⟨h29, σ28, e30, hf⟩ := hg
      refine j_iast (pc := 106) (ws' := xC ca ad σ28) S hw 27 21 xg_27 xt_27 h29 (by rw [e30]; exact xs_27) dH_bringToWanted_106 (fun H locs hw => ?_)
      refine lv_iload_n (pc := 107) hx hb dH_bringToWanted_107 rfl (lv_at hl 3 rfl) ?_
      obtain ⟨rfl, rfl⟩ := jo0 hf
      exact j_iret (pc := 108) S hw hr hlk dH_bringToWanted_108
  · replace hf := jif hf hc
    exact (jo2 hf).elim
set_option maxHeartbeats 4000000 in
set_option maxRecDepth 100000 in
theorem knH_bringToWanted (l : Launch) (D : va_G) (ca : Nat → ClassId) (ad : Nat → Nat) (sz : Nat) (σ : JS) (x1 : Int32) (x2 : Int32) (vo : Int32) (σo : JS) (hf : mH_bringToWanted σ x1 x2 = some (0, vo, σo)) : Met l yH_bringToWanted wsH_bringToWanted rmnH_bringToWanted (jPre D (xT ca) (xC ca ad σ) (xN (va_A (xC ca ad σ) sz)) sz [.ref (ad 0), .int x1, .int x2]) (jQi D (xT ca) (xC ca ad) (va_A (xC ca ad σ) sz) vo σo) 0 0 (va_A (xC ca ad σ) sz) := by
  refine Met.ofW (cc := cH_bringToWanted) (maxL := 6) (ret := some .int) (by decide) rfl ?_
  intro p e s m args below meth c s₁ B hml hv
  obtain ⟨rfl, hsz, hP, hK, hD0, hN⟩ := hv
  subst hsz
  have hl := lv_entry [.ref (ad 0), .int x1, .int x2] (n := 6) (Nat.le_of_ble_eq_true rfl)
  rw [lg_entry_eq]
  generalize (lg_sl [.ref (ad 0), .int x1, .int x2] ++ List.replicate (6 - (lg_sl [.ref (ad 0), .int x1, .int x2]).length) Slot.unset).toArray = ls at hl ⊢
  exact bnH_bringToWanted (fun q h => Or.inr h) ⟨B.exec, B.bytes, hml, findClass_of_methodNamed B.named, fun w h => atoms_spec (ws := wsH_bringToWanted) B.pre w (List.mem_cons_of_mem _ h)⟩ hN B.returns B.notSynchronized vo σo σ x1 x2 ls hl ⟨hP, hD0.self, va_S.rf, hK⟩ hf
set_option maxHeartbeats 4000000 in
set_option maxRecDepth 100000 in
theorem wxmH_bringToWanted_L28g {p : Program} {l : Launch} {e : Env} {s : State} {m : MethodId} {args : Array Value} {below : List Frame} {meth : Method} {c : Code} {D : va_G} {ca : Nat → ClassId} {ad : Nat → Nat} {A : Nat → Prop} (hA : ∀ q, s.heap.size ≤ q → A q) (S : CallFix p m c cH_bringToWanted 6 s args jall RH) (hN : xN A s) (hr : meth.sig.returnType = some .int) (hlk : meth.locks = false) (hl9 : l.stackTraces = false) (ht9 : ∀ x ∈ c.exceptionTable.toList, False) (ko : Nat) (vo : Int32) (σo : JS) (hko : ¬ ko = 0) (k : JS → Int32 → Option (Nat × Int32 × JS)) (x1 : Int32) (x2 : Int32) (x3 : Int32) (hk : ∀ (σ : JS) (x4 : Int32) (ls : Array Slot) (H : Heap) (locs : List Loc), lv_has ls 6 [(0, .ref (ad 0)), (1, .int x1), (2, .int x2), (3, .int x3), (4, .int x4)] → jH D (xT ca) (xC ca ad σ) A s.heap H locs s → k σ x4 = some (ko, vo, σo) → W p l e (headSpec wsH_bringToWanted rmxH_bringToWanted).room s m args below meth c H locs 0 0 (jxQ below s (jE ko) (jB D (xT ca) (xC ca ad) A σo) A 1 6) (F0 m 87 ls [])) : ∀ (n : Nat) (σ : JS) (x4 : Int32) (ls : Array Slot) (H : Heap) (locs : List Loc), lv_has ls 6 [(0, .ref (ad 0)), (1, .int x1), (2, .int x2), (3, .int x3), (4, .int x4)] → jH D (xT ca) (xC ca ad σ) A s.heap H locs s → mH_bringToWanted_L28 k x1 x2 x3 n σ x4 = some (ko, vo, σo) → W p l e (headSpec wsH_bringToWanted rmxH_bringToWanted).room s m args below meth c H locs 0 0 (jxQ below s (jE ko) (jB D (xT ca) (xC ca ad) A σo) A 1 6) (F0 m 28 ls []) := by
  have hx := S.1
  have hb := S.2.1
  intro n
  induction n with
  | zero => intro σ x4 ls H locs hl hw hf; cases hf
  | succ n ih =>
    intro σ x4 ls H locs hl hw hf
    rw [mH_bringToWanted_L28] at hf
    refine lv_iload (pc := 28) hx hb dH_bringToWanted_28 (lv_at hl 4 rfl) ?_
    refine lv_aload_n (pc := 30) hx hb dH_bringToWanted_30 rfl (lv_at hl 0 rfl) ?_
    refine j_get (pc := 31) (v := .ref (ad 26)) S hw inH 0 0 5 xg_0 rfl (by decide) k_167 rfl dH_bringToWanted_31 ?_
    refine lv_iload_n (pc := 34) hx hb dH_bringToWanted_34 rfl (lv_at hl 1 rfl) ?_
    have hg := jrd_e hf; clear hf; obtain ⟨h6, v5, e7, hf⟩ := hg
    refine j_iald (pc := 35) S hw 26 20 xg_26 xt_26 h6 e7 dH_bringToWanted_35 ?_
    refine lv_icmp_ge (pc := 36) (tgt := 87) hx hb dH_bringToWanted_36 (by decide) (fun hc => ?_) (fun hc => ?_)
    · replace hf := jit hf hc
      exact hk σ x4 _ _ _ (lv_sub hl [0, 1, 2, 3, 4] rfl) hw hf
    · replace hf := jif hf hc
      refine lv_iload_n (pc := 39) hx hb dH_bringToWanted_39 rfl (lv_at hl 1 rfl) ?_
      refine lv_iload (pc := 40) hx hb dH_bringToWanted_40 (lv_at hl 4 rfl) ?_
      have hg := jbn_e hf; clear hf; obtain ⟨q8, h9, hf⟩ := hg
      refine j_cpi (pc := 42) (v := q8) (va_runS (As := [.int x1, .int x4]) (rest := []) S (kH_cellOf l D ca ad _ σ x1 x4 q8 h9) (cwS 2 S.2.2.2.2 (jgS k_211 k_212 k_1 k_213) rfl rfl rfl (by decide +kernel) ⟨Nat.le_of_ble_eq_true rfl, Nat.le_of_ble_eq_true rfl⟩) (j_preS hw xN_b (xN_to hN hw hA)) rfl rfl hl.1 rfl (lv_room (Nat.le_of_ble_eq_true rfl)) dH_bringToWanted_42 ⟨Nat.le_of_ble_eq_true rfl, Nat.le_of_ble_eq_true rfl⟩) ?_
      refine lv_istore (pc := 45) (lv' := [(5, .int q8), (0, .ref (ad 0)), (1, .int x1), (2, .int x2), (3, .int x3), (4, .int x4)]) hx hb dH_bringToWanted_45 hl (by decide) rfl (fun ls hl => ?_)
      refine lv_aload_n (pc := 47) hx hb dH_bringToWanted_47 rfl (lv_at hl 1 rfl) ?_
      refine j_get (pc := 48) (v := .ref (ad 2)) S hw inH 0 0 1 xg_0 rfl (by decide) k_163 rfl dH_bringToWanted_48 ?_
      refine j_get (pc := 51) (v := .ref (ad 15)) S hw inS 2 2 0 xg_2 rfl (by decide) k_84 rfl dH_bringToWanted_51 ?_
      refine lv_iload (pc := 54) hx hb dH_bringToWanted_54 (lv_at hl 0 rfl) ?_
      have hg := jrd_e hf; clear hf; obtain ⟨h11, v10, e12, hf⟩ := hg
      refine j_iald (pc := 56) S hw 15 9 xg_15 xt_15 h11 e12 dH_bringToWanted_56 ?_
      refine lv_aload_n (pc := 57) hx hb dH_bringToWanted_57 rfl (lv_at hl 1 rfl) ?_
      refine j_get (pc := 58) (v := .ref (ad 29)) S hw inH 0 0 8 xg_0 rfl (by decide) k_170 rfl dH_bringToWanted_58 ?_
      refine lv_iload (pc := 61) hx hb dH_bringToWanted_61 (lv_at hl 5 rfl) ?_
      have hg := jrd_e hf; clear hf; obtain ⟨h14, v13, e15, hf⟩ := hg
      refine j_iald (pc := 63) S hw 29 23 xg_29 xt_29 h14 e15 dH_bringToWanted_63 ?_
      refine lv_icmp_eq (pc := 64) (tgt := 81) hx hb dH_bringToWanted_64 (by decide) (fun hc => ?_) (fun hc => ?_)
      · replace hf := jit hf hc
        refine lv_iinc (pc := 81) (v := (x4 + 1)) (k := 5) (lv' := [(4, .int (x4 + 1)), (5, .int q8), (0, .ref (ad 0)), (1, .int x1), (2, .int x2), (3, .int x3)]) hx hb dH_bringToWanted_81 hl rfl (j_inc _ (by decide)) (by decide) rfl (fun ls hl => ?_)
        refine lv_goto (pc := 84) (tgt := 28) hx hb dH_bringToWanted_84 (by decide) ?_
        exact ih σ (x4 + 1) _ _ _ (lv_sub hl [2, 3, 4, 5, 0] rfl) hw hf
      · replace hf := jif hf hc
        refine lv_aload_n (pc := 67) hx hb dH_bringToWanted_67 rfl (lv_at hl 1 rfl) ?_
        refine lv_iconst (pc := 68) (v := (3 : Int32)) hx hb dH_bringToWanted_68 (by decide) ?_
        refine lv_iload (pc := 69) hx hb dH_bringToWanted_69 (lv_at hl 0 rfl) ?_
        refine lv_aload_n (pc := 71) hx hb dH_bringToWanted_71 rfl (lv_at hl 1 rfl) ?_
        refine j_get (pc := 72) (v := .ref (ad 29)) S hw inH 0 0 8 xg_0 rfl (by decide) k_170 rfl dH_bringToWanted_72 ?_
        refine lv_iload (pc := 75) hx hb dH_bringToWanted_75 (lv_at hl 5 rfl) ?_
        have hg := jrd_e hf; clear hf; obtain ⟨h17, v16, e18, hf⟩ := hg
        refine j_iald (pc := 77) S hw 29 23 xg_29 xt_29 h17 e18 dH_bringToWanted_77 ?_
        have hg := jbn_e hf; clear hf; obtain ⟨q19, h20, hf⟩ := hg
        refine j_callv (pc := 78) (C := xC ca ad) (σ' := q19) hw hA (va_runV (As := [.int (3 : Int32), .int q8, .int v16]) (rest := []) S (kH_writeChange l D ca ad _ σ (3 : Int32) q8 v16 q19 h20) (cwV 3 S.2.2.2.2 (jgV k_393 k_395 ks_7 k_1 k_396) rfl rfl rfl (by decide +kernel) ⟨Nat.le_of_ble_eq_true rfl, Nat.le_of_ble_eq_true rfl⟩) (j_preV (As := [.int (3 : Int32), .int q8, .int v16]) hw xN_b (xN_to hN hw hA) rfl xg_0) rfl rfl hl.1 rfl (lv_room (Nat.le_of_ble_eq_true rfl)) dH_bringToWanted_78 ⟨Nat.le_of_ble_eq_true rfl, Nat.le_of_ble_eq_true rfl⟩) (fun H locs hw => ?_)
        refine lv_iinc (pc := 81) (v := (x4 + 1)) (k := 5) (lv' := [(4, .int (x4 + 1)), (5, .int q8), (0, .ref (ad 0)), (1, .int x1), (2, .int x2), (3, .int x3)]) hx hb dH_bringToWanted_81 hl rfl (j_inc _ (by decide)) (by decide) rfl (fun ls hl => ?_)
        refine lv_goto (pc := 84) (tgt := 28) hx hb dH_bringToWanted_84 (by decide) ?_
        exact ih q19 (x4 + 1) _ _ _ (lv_sub hl [2, 3, 4, 5, 0] rfl) hw hf
set_option maxHeartbeats 4000000 in
set_option maxRecDepth 100000 in
theorem bxH_bringToWanted {p : Program} {l : Launch} {e : Env} {s : State} {m : MethodId} {args : Array Value} {below : List Frame} {meth : Method} {c : Code} {D : va_G} {ca : Nat → ClassId} {ad : Nat → Nat} {A : Nat → Prop} (hA : ∀ q, s.heap.size ≤ q → A q) (S : CallFix p m c cH_bringToWanted 6 s args jall RH) (hN : xN A s) (hr : meth.sig.returnType = some .int) (hlk : meth.locks = false) (hl9 : l.stackTraces = false) (ht9 : ∀ x ∈ c.exceptionTable.toList, False) (ko : Nat) (vo : Int32) (σo : JS) (hko : ¬ ko = 0) (σ : JS) (x1 : Int32) (x2 : Int32) (ls : Array Slot) (hl : lv_has ls 6 [(0, .ref (ad 0)), (1, .int x1), (2, .int x2)]) (hw : jH D (xT ca) (xC ca ad σ) A s.heap s.heap [] s) (hf : mH_bringToWanted σ x1 x2 = some (ko, vo, σo)) : W p l e (headSpec wsH_bringToWanted rmxH_bringToWanted).room s m args below meth c s.heap [] 0 0 (jxQ below s (jE ko) (jB D (xT ca) (xC ca ad) A σo) A 1 6) (F0 m 0 ls []) := by
  have hx := S.1
  have hb := S.2.1
  unfold mH_bringToWanted at hf
  refine lv_aload_n (pc := 0) hx hb dH_bringToWanted_0 rfl (lv_at hl 0 rfl) ?_
  refine lv_iload_n (pc := 1) hx hb dH_bringToWanted_1 rfl (lv_at hl 1 rfl) ?_
  have hg := jbn_e hf; clear hf; obtain ⟨q1, h2, hf⟩ := hg
  refine j_cpi (pc := 2) (v := q1) (va_runV (As := [.int x1]) (rest := []) S (kH_countUnwanted l D ca ad _ σ x1 q1 h2) (cwV 1 S.2.2.2.2 (jgV k_467 k_469 ks_10 k_1 k_470) rfl rfl rfl (by decide +kernel) ⟨Nat.le_of_ble_eq_true rfl, Nat.le_of_ble_eq_true rfl⟩) (j_preV (As := [.int x1]) hw xN_b (xN_to hN hw hA) rfl xg_0) rfl rfl hl.1 rfl (lv_room (Nat.le_of_ble_eq_true rfl)) dH_bringToWanted_2 ⟨Nat.le_of_ble_eq_true rfl, Nat.le_of_ble_eq_true rfl⟩) ?_
  refine lv_istore_n (pc := 5) (lv' := [(3, .int q1), (0, .ref (ad 0)), (1, .int x1), (2, .int x2)]) hx hb dH_bringToWanted_5 rfl hl (by decide) rfl (fun ls hl => ?_)
  refine lv_aload_n (pc := 6) hx hb dH_bringToWanted_6 rfl (lv_at hl 1 rfl) ?_
  refine j_get (pc := 7) (v := .ref (ad 1)) S hw inH 0 0 0 xg_0 rfl (by decide) k_162 rfl dH_bringToWanted_7 ?_
  refine lv_iload_n (pc := 10) hx hb dH_bringToWanted_10 rfl (lv_at hl 0 rfl) ?_
  have hg := jbn_e hf; clear hf; obtain ⟨q3, h4, hf⟩ := hg
  refine j_cpi (pc := 11) (v := q3) (va_runV (As := [.int q1]) (rest := []) S (kJ_refusesOwnChanges l D ca ad _ σ q1 q3 h4) (cwV 1 S.2.2.2.2 (jgV k_471 k_472 k_473 k_2 k_474) rfl rfl rfl (by decide +kernel) ⟨Nat.le_of_ble_eq_true rfl, Nat.le_of_ble_eq_true rfl⟩) (j_preV (As := [.int q1]) hw xN_b (xN_to hN hw hA) rfl xg_1) rfl rfl hl.1 rfl (lv_room (Nat.le_of_ble_eq_true rfl)) dH_bringToWanted_11 ⟨Nat.le_of_ble_eq_true rfl, Nat.le_of_ble_eq_true rfl⟩) ?_
  refine lv_if_eq (pc := 14) (tgt := 25) hx hb dH_bringToWanted_14 (by decide) (fun hc => ?_) (fun hc => ?_)
  · replace hf := jit hf hc
    refine lv_iconst (pc := 25) (v := (0 : Int32)) hx hb dH_bringToWanted_25 (by decide) ?_
    refine lv_istore (pc := 26) (lv' := [(4, .int (0 : Int32)), (3, .int q1), (0, .ref (ad 0)), (1, .int x1), (2, .int x2)]) hx hb dH_bringToWanted_26 hl (by decide) rfl (fun ls hl => ?_)
    refine wxmH_bringToWanted_L28g hA S hN hr hlk hl9 ht9 ko vo σo hko _ x1 x2 q1 (fun σ21 z22 ls H locs hl hw hf => ?_) 999 σ (0 : Int32) _ _ _ (lv_sub hl [2, 3, 4, 1, 0] rfl) hw hf
    try dsimp only at hf
    refine lv_iload_n (pc := 87) hx hb dH_bringToWanted_87 rfl (lv_at hl 3 rfl) ?_
    refine lv_if_le (pc := 88) (tgt := 100) hx hb dH_bringToWanted_88 (by decide) (fun hc => ?_) (fun hc => ?_)
    · replace hf := jit hf hc
      refine lv_aload_n (pc := 100) hx hb dH_bringToWanted_100 rfl (lv_at hl 0 rfl) ?_
      refine j_get (pc := 101) (v := .ref (ad 27)) S hw inH 0 0 6 xg_0 rfl (by decide) k_168 rfl dH_bringToWanted_101 ?_
      refine lv_iload_n (pc := 104) hx hb dH_bringToWanted_104 rfl (lv_at hl 1 rfl) ?_
      refine lv_iload_n (pc := 105) hx hb dH_bringToWanted_105 rfl (lv_at hl 2 rfl) ?_
      have hg := jwr_e hf; clear hf; obtain ⟨h24, σ23, e25, hf⟩ := hg
      refine j_iast (pc := 106) (ws' := xC ca ad σ23) S hw 27 21 xg_27 xt_27 h24 (by rw [e25]; exact xs_27) dH_bringToWanted_106 (fun H locs hw => ?_)
      refine lv_iload_n (pc := 107) hx hb dH_bringToWanted_107 rfl (lv_at hl 3 rfl) ?_
      exact absurd (jo1 hf) hko
    · replace hf := jif hf hc
      refine lv_aload_n (pc := 91) hx hb dH_bringToWanted_91 rfl (lv_at hl 0 rfl) ?_
      refine j_get (pc := 92) (v := .ref (ad 1)) S hw inH 0 0 0 xg_0 rfl (by decide) k_162 rfl dH_bringToWanted_92 ?_
      refine lv_iconst (pc := 95) (v := (2 : Int32)) hx hb dH_bringToWanted_95 (by decide) ?_
      refine lv_iconst (pc := 96) (v := (3 : Int32)) hx hb dH_bringToWanted_96 (by decide) ?_
      have hg := jbn_e hf; clear hf; obtain ⟨q26, h27, hf⟩ := hg
      refine j_callv (pc := 97) (C := xC ca ad) (σ' := q26) hw hA (va_runV (As := [.int (2 : Int32), .int (3 : Int32)]) (rest := []) S (kJ_addEnd l D ca ad _ σ21 (2 : Int32) (3 : Int32) q26 h27) (cwV 2 S.2.2.2.2 (jgV k_425 k_426 k_427 k_2 k_428) rfl rfl rfl (by decide +kernel) ⟨Nat.le_of_ble_eq_true rfl, Nat.le_of_ble_eq_true rfl⟩) (j_preV (As := [.int (2 : Int32), .int (3 : Int32)]) hw xN_b (xN_to hN hw hA) rfl xg_1) rfl rfl hl.1 rfl (lv_room (Nat.le_of_ble_eq_true rfl)) dH_bringToWanted_97 ⟨Nat.le_of_ble_eq_true rfl, Nat.le_of_ble_eq_true rfl⟩) (fun H locs hw => ?_)
      refine lv_aload_n (pc := 100) hx hb dH_bringToWanted_100 rfl (lv_at hl 0 rfl) ?_
      refine j_get (pc := 101) (v := .ref (ad 27)) S hw inH 0 0 6 xg_0 rfl (by decide) k_168 rfl dH_bringToWanted_101 ?_
      refine lv_iload_n (pc := 104) hx hb dH_bringToWanted_104 rfl (lv_at hl 1 rfl) ?_
      refine lv_iload_n (pc := 105) hx hb dH_bringToWanted_105 rfl (lv_at hl 2 rfl) ?_
      have hg := jwr_e hf; clear hf; obtain ⟨h29, σ28, e30, hf⟩ := hg
      refine j_iast (pc := 106) (ws' := xC ca ad σ28) S hw 27 21 xg_27 xt_27 h29 (by rw [e30]; exact xs_27) dH_bringToWanted_106 (fun H locs hw => ?_)
      refine lv_iload_n (pc := 107) hx hb dH_bringToWanted_107 rfl (lv_at hl 3 rfl) ?_
      exact absurd (jo1 hf) hko
  · replace hf := jif hf hc
    obtain ⟨rfl, rfl, rfl⟩ := jo4 hf
    exact jx_throw (pc := 17) (own := RH) (cls := jE 2) (names := jnm) (ik := 68) (ic := 70) hx hb hl9 S.2.2.2.1 (by decide +kernel) (by decide +kernel) (S.2.2.2.2 _ k_340) (S.2.2.2.2 _ k_12) (jxw_of S hN jxw2) (hl.1.trans S.2.2.1.symm) dH_bringToWanted_17 dH_bringToWanted_20 dH_bringToWanted_21 dH_bringToWanted_24 ht9 (Nat.le_of_ble_eq_true rfl) (Nat.le_of_ble_eq_true rfl) (Nat.le_of_ble_eq_true rfl) (Nat.le_of_ble_eq_true rfl) hlk (Nat.le_refl _) (Nat.le_refl _) (jB_kept hw)
set_option maxHeartbeats 4000000 in
set_option maxRecDepth 100000 in
theorem kxH_bringToWanted (l : Launch) (hl9 : l.stackTraces = false) (D : va_G) (ca : Nat → ClassId) (ad : Nat → Nat) (sz : Nat) (σ : JS) (x1 : Int32) (x2 : Int32) (ko : Nat) (vo : Int32) (σo : JS) (hko : ¬ ko = 0) (hf : mH_bringToWanted σ x1 x2 = some (ko, vo, σo)) : jxM l yH_bringToWanted wsH_bringToWanted rmxH_bringToWanted (jPre D (xT ca) (xC ca ad σ) (xN (va_A (xC ca ad σ) sz)) sz [.ref (ad 0), .int x1, .int x2]) (jE ko) (jB D (xT ca) (xC ca ad) (va_A (xC ca ad σ) sz) σo) (va_A (xC ca ad σ) sz) 1 6 := by
  refine jxM_of (cc := cH_bringToWanted) (maxL := 6) (ret := some .int) (by decide) rfl ?_
  intro p e s m args below meth c s₁ B hml hnil hv
  obtain ⟨rfl, hsz, hP, hK, hD0, hN⟩ := hv
  subst hsz
  have hl := lv_entry [.ref (ad 0), .int x1, .int x2] (n := 6) (Nat.le_of_ble_eq_true rfl)
  rw [lg_entry_eq]
  generalize (lg_sl [.ref (ad 0), .int x1, .int x2] ++ List.replicate (6 - (lg_sl [.ref (ad 0), .int x1, .int x2]).length) Slot.unset).toArray = ls at hl ⊢
  exact bxH_bringToWanted (fun q h => Or.inr h) ⟨B.exec, B.bytes, hml, findClass_of_methodNamed B.named, fun w h => atoms_spec (ws := wsH_bringToWanted) B.pre w (List.mem_cons_of_mem _ h)⟩ hN B.returns B.notSynchronized hl9 hnil ko vo σo hko σ x1 x2 ls hl ⟨hP, hD0.self, va_S.rf, hK⟩ hf

def rmnH_restore : Room := { frames := 7, cells := 0, slots := 0, locals := 112 }
def rmxH_restore : Room := { frames := 7, cells := 1, slots := 6, locals := 112 }
def mH_restore (σ : JS) (x1 : Int32) : Option (Nat × Int32 × JS) :=
  jbn (mH_isSlot σ x1) fun q1 =>
  if q1 = 0 then
  (some (1, 0, σ))
  else
  (if (σ 100 8) = 0 then
  (some (2, 0, σ))
  else
  (jrd σ 19 4 x1 fun v3 =>
  if v3 = 0 then
  (some (2, 0, σ))
  else
  (jrd σ 20 4 x1 fun v6 =>
  jbn (mJ_isCycleOn σ v6) fun q9 =>
  if q9 = 0 then
  (jrd σ 20 4 x1 fun v11 =>
  jcp σ 22 32 29 8 (x1 * (8 : Int32)) (0 : Int32) (8 : Int32) fun σ14 =>
  jrd σ14 21 4 x1 fun v21 =>
  jbn (mH_bringToWanted σ14 v11 v21) fun q24 =>
  if q24.1 = 0 then
  (jwr q24.2.2 28 3 v11 ((σ 100 0) + (1 : Int32)) fun σ26 =>
  some (0, q24.2.1, σ26))
  else
  (some (q24.1, 0, q24.2.2)))
  else
  (some (2, 0, σ)))))
set_option maxHeartbeats 4000000 in
set_option maxRecDepth 100000 in
theorem bnH_restore {p : Program} {l : Launch} {e : Env} {s : State} {m : MethodId} {args : Array Value} {below : List Frame} {meth : Method} {c : Code} {D : va_G} {ca : Nat → ClassId} {ad : Nat → Nat} {A : Nat → Prop} (hA : ∀ q, s.heap.size ≤ q → A q) (S : CallFix p m c cH_restore 5 s args jall RH) (hN : xN A s) (hr : meth.sig.returnType = some .int) (hlk : meth.locks = false) (vo : Int32) (σo : JS) (σ : JS) (x1 : Int32) (ls : Array Slot) (hl : lv_has ls 5 [(0, .ref (ad 0)), (1, .int x1)]) (hw : jH D (xT ca) (xC ca ad σ) A s.heap s.heap [] s) (hf : mH_restore σ x1 = some (0, vo, σo)) : W p l e (headSpec wsH_restore rmnH_restore).room s m args below meth c s.heap [] 0 0 (MQ below (jQi D (xT ca) (xC ca ad) A vo σo) args s 0 0 A) (F0 m 0 ls []) := by
  have hx := S.1
  have hb := S.2.1
  unfold mH_restore at hf
  refine lv_aload_n (pc := 0) hx hb dH_restore_0 rfl (lv_at hl 0 rfl) ?_
  refine lv_iload_n (pc := 1) hx hb dH_restore_1 rfl (lv_at hl 1 rfl) ?_
  have hg := jbn_e hf; clear hf; obtain ⟨q1, h2, hf⟩ := hg
  refine j_cpi (pc := 2) (v := q1) (va_runV (As := [.int x1]) (rest := []) S (kH_isSlot l D ca ad _ σ x1 q1 h2) (cwV 1 S.2.2.2.2 (jgV k_440 k_442 ks_9 k_1 k_443) rfl rfl rfl (by decide +kernel) ⟨Nat.le_of_ble_eq_true rfl, Nat.le_of_ble_eq_true rfl⟩) (j_preV (As := [.int x1]) hw xN_b (xN_to hN hw hA) rfl xg_0) rfl rfl hl.1 rfl (lv_room (Nat.le_of_ble_eq_true rfl)) dH_restore_2 ⟨Nat.le_of_ble_eq_true rfl, Nat.le_of_ble_eq_true rfl⟩) ?_
  refine lv_if_ne (pc := 5) (tgt := 16) hx hb dH_restore_5 (by decide) (fun hc => ?_) (fun hc => ?_)
  · replace hf := jif hf hc
    refine lv_aload_n (pc := 16) hx hb dH_restore_16 rfl (lv_at hl 0 rfl) ?_
    refine j_get (pc := 17) (v := .int (σ 100 8)) S hw inH 0 0 11 xg_0 rfl (by decide) k_173 rfl dH_restore_17 ?_
    refine lv_if_eq (pc := 20) (tgt := 54) hx hb dH_restore_20 (by decide) (fun hc => ?_) (fun hc => ?_)
    · replace hf := jit hf hc
      exact (jo2 hf).elim
    · replace hf := jif hf hc
      refine lv_aload_n (pc := 23) hx hb dH_restore_23 rfl (lv_at hl 0 rfl) ?_
      refine j_get (pc := 24) (v := .ref (ad 3)) S hw inH 0 0 2 xg_0 rfl (by decide) k_164 rfl dH_restore_24 ?_
      refine j_get (pc := 27) (v := .ref (ad 19)) S hw inC 3 3 0 xg_3 rfl (by decide) k_109 rfl dH_restore_27 ?_
      refine lv_iload_n (pc := 30) hx hb dH_restore_30 rfl (lv_at hl 1 rfl) ?_
      have hg := jrd_e hf; clear hf; obtain ⟨h4, v3, e5, hf⟩ := hg
      refine j_zald (pc := 31) S hw 19 13 xg_19 xt_19 h4 e5 dH_restore_31 ?_
      refine lv_if_eq (pc := 32) (tgt := 54) hx hb dH_restore_32 (by decide) (fun hc => ?_) (fun hc => ?_)
      · replace hf := jit hf hc
        exact (jo2 hf).elim
      · replace hf := jif hf hc
        refine lv_aload_n (pc := 35) hx hb dH_restore_35 rfl (lv_at hl 0 rfl) ?_
        refine j_get (pc := 36) (v := .ref (ad 1)) S hw inH 0 0 0 xg_0 rfl (by decide) k_162 rfl dH_restore_36 ?_
        refine lv_aload_n (pc := 39) hx hb dH_restore_39 rfl (lv_at hl 0 rfl) ?_
        refine j_get (pc := 40) (v := .ref (ad 3)) S hw inH 0 0 2 xg_0 rfl (by decide) k_164 rfl dH_restore_40 ?_
        refine j_get (pc := 43) (v := .ref (ad 20)) S hw inC 3 3 1 xg_3 rfl (by decide) k_111 rfl dH_restore_43 ?_
        refine lv_iload_n (pc := 46) hx hb dH_restore_46 rfl (lv_at hl 1 rfl) ?_
        have hg := jrd_e hf; clear hf; obtain ⟨h7, v6, e8, hf⟩ := hg
        refine j_iald (pc := 47) S hw 20 14 xg_20 xt_20 h7 e8 dH_restore_47 ?_
        have hg := jbn_e hf; clear hf; obtain ⟨q9, h10, hf⟩ := hg
        refine j_cpi (pc := 48) (v := q9) (va_runV (As := [.int v6]) (rest := []) S (kJ_isCycleOn l D ca ad _ σ v6 q9 h10) (cwV 1 S.2.2.2.2 (jgV k_444 k_445 k_446 k_2 k_447) rfl rfl rfl (by decide +kernel) ⟨Nat.le_of_ble_eq_true rfl, Nat.le_of_ble_eq_true rfl⟩) (j_preV (As := [.int v6]) hw xN_b (xN_to hN hw hA) rfl xg_1) rfl rfl hl.1 rfl (lv_room (Nat.le_of_ble_eq_true rfl)) dH_restore_48 ⟨Nat.le_of_ble_eq_true rfl, Nat.le_of_ble_eq_true rfl⟩) ?_
        refine lv_if_eq (pc := 51) (tgt := 62) hx hb dH_restore_51 (by decide) (fun hc => ?_) (fun hc => ?_)
        · replace hf := jit hf hc
          refine lv_aload_n (pc := 62) hx hb dH_restore_62 rfl (lv_at hl 0 rfl) ?_
          refine j_get (pc := 63) (v := .ref (ad 3)) S hw inH 0 0 2 xg_0 rfl (by decide) k_164 rfl dH_restore_63 ?_
          refine j_get (pc := 66) (v := .ref (ad 20)) S hw inC 3 3 1 xg_3 rfl (by decide) k_111 rfl dH_restore_66 ?_
          refine lv_iload_n (pc := 69) hx hb dH_restore_69 rfl (lv_at hl 1 rfl) ?_
          have hg := jrd_e hf; clear hf; obtain ⟨h12, v11, e13, hf⟩ := hg
          refine j_iald (pc := 70) S hw 20 14 xg_20 xt_20 h12 e13 dH_restore_70 ?_
          refine lv_istore_n (pc := 71) (lv' := [(2, .int v11), (0, .ref (ad 0)), (1, .int x1)]) hx hb dH_restore_71 rfl hl (by decide) rfl (fun ls hl => ?_)
          refine lv_aload_n (pc := 72) hx hb dH_restore_72 rfl (lv_at hl 1 rfl) ?_
          refine j_get (pc := 73) (v := .ref (ad 1)) S hw inH 0 0 0 xg_0 rfl (by decide) k_162 rfl dH_restore_73 ?_
          refine j_get (pc := 76) (v := .int (σ 100 0)) S hw inJ 1 1 9 xg_1 rfl (by decide) k_50 rfl dH_restore_76 ?_
          refine lv_istore_n (pc := 79) (lv' := [(3, .int (σ 100 0)), (2, .int v11), (0, .ref (ad 0)), (1, .int x1)]) hx hb dH_restore_79 rfl hl (by decide) rfl (fun ls hl => ?_)
          refine lv_aload_n (pc := 80) hx hb dH_restore_80 rfl (lv_at hl 2 rfl) ?_
          refine j_get (pc := 81) (v := .ref (ad 3)) S hw inH 0 0 2 xg_0 rfl (by decide) k_164 rfl dH_restore_81 ?_
          refine j_get (pc := 84) (v := .ref (ad 22)) S hw inC 3 3 3 xg_3 rfl (by decide) k_115 rfl dH_restore_84 ?_
          refine lv_iload_n (pc := 87) hx hb dH_restore_87 rfl (lv_at hl 3 rfl) ?_
          refine lv_bipush (pc := 88) (v := (8 : Int32)) hx hb dH_restore_88 (by decide) ?_
          refine lv_imul (pc := 90) hx hb dH_restore_90 ?_
          refine lv_aload_n (pc := 91) hx hb dH_restore_91 rfl (lv_at hl 2 rfl) ?_
          refine j_get (pc := 92) (v := .ref (ad 29)) S hw inH 0 0 8 xg_0 rfl (by decide) k_170 rfl dH_restore_92 ?_
          refine lv_iconst (pc := 95) (v := (0 : Int32)) hx hb dH_restore_95 (by decide) ?_
          refine lv_bipush (pc := 96) (v := (8 : Int32)) hx hb dH_restore_96 (by decide) ?_
          have hg := jcp_e hf; clear hf; obtain ⟨h16, h17, h18, h19, h20, σ14, e15, hf⟩ := hg
          refine j_copyi (pc := 98) (rest := []) (ws' := xC ca ad σ14) S hw hl.1 k_462 k_416 k_415 k_14 22 29 16 23 xg_22 xg_29 xt_22 xt_29 h16 h17 h18 h19 h20 (by rw [e15]; exact xa_29) (Nat.le_of_ble_eq_true rfl) (Nat.le_of_ble_eq_true rfl) dH_restore_98 (fun H locs hw => ?_)
          refine lv_aload_n (pc := 101) hx hb dH_restore_101 rfl (lv_at hl 2 rfl) ?_
          refine lv_iload_n (pc := 102) hx hb dH_restore_102 rfl (lv_at hl 1 rfl) ?_
          refine lv_aload_n (pc := 103) hx hb dH_restore_103 rfl (lv_at hl 2 rfl) ?_
          refine j_get (pc := 104) (v := .ref (ad 3)) S hw inH 0 0 2 xg_0 rfl (by decide) k_164 rfl dH_restore_104 ?_
          refine j_get (pc := 107) (v := .ref (ad 21)) S hw inC 3 3 2 xg_3 rfl (by decide) k_113 rfl dH_restore_107 ?_
          refine lv_iload_n (pc := 110) hx hb dH_restore_110 rfl (lv_at hl 3 rfl) ?_
          have hg := jrd_e hf; clear hf; obtain ⟨h22, v21, e23, hf⟩ := hg
          refine j_iald (pc := 111) S hw 21 15 xg_21 xt_21 h22 e23 dH_restore_111 ?_
          have hg := jbn_e hf; clear hf; obtain ⟨q24, h25, hf⟩ := hg
          by_cases hz9 : q24.1 = 0
          · replace hf := jit hf hz9
            refine j_calli (pc := 112) (C := xC ca ad) (σ' := q24.2.2) (v := q24.2.1) hw hA (va_runV (As := [.int v11, .int v21]) (rest := []) S (knH_bringToWanted l D ca ad _ σ14 v11 v21 q24.2.1 q24.2.2 (jq0 h25 hz9)) (cwV 2 S.2.2.2.2 (jgV k_463 k_465 ks_11 k_1 k_466) rfl rfl rfl (by decide +kernel) ⟨Nat.le_of_ble_eq_true rfl, Nat.le_of_ble_eq_true rfl⟩) (j_preV (As := [.int v11, .int v21]) hw xN_b (xN_to hN hw hA) rfl xg_0) rfl rfl hl.1 rfl (lv_room (Nat.le_of_ble_eq_true rfl)) dH_restore_112 ⟨Nat.le_of_ble_eq_true rfl, Nat.le_of_ble_eq_true rfl⟩) (fun H locs hw => ?_)
            refine lv_istore (pc := 115) (lv' := [(4, .int q24.2.1), (3, .int (σ 100 0)), (2, .int v11), (0, .ref (ad 0)), (1, .int x1)]) hx hb dH_restore_115 hl (by decide) rfl (fun ls hl => ?_)
            refine lv_aload_n (pc := 117) hx hb dH_restore_117 rfl (lv_at hl 3 rfl) ?_
            refine j_get (pc := 118) (v := .ref (ad 28)) S hw inH 0 0 7 xg_0 rfl (by decide) k_169 rfl dH_restore_118 ?_
            refine lv_iload_n (pc := 121) hx hb dH_restore_121 rfl (lv_at hl 2 rfl) ?_
            refine lv_iload_n (pc := 122) hx hb dH_restore_122 rfl (lv_at hl 1 rfl) ?_
            refine lv_iconst (pc := 123) (v := (1 : Int32)) hx hb dH_restore_123 (by decide) ?_
            refine lv_iadd (pc := 124) hx hb dH_restore_124 ?_
            have hg := jwr_e hf; clear hf; obtain ⟨h27, σ26, e28, hf⟩ := hg
            refine j_iast (pc := 125) (ws' := xC ca ad σ26) S hw 28 22 xg_28 xt_28 h27 (by rw [e28]; exact xs_28) dH_restore_125 (fun H locs hw => ?_)
            refine lv_iload (pc := 126) hx hb dH_restore_126 (lv_at hl 0 rfl) ?_
            obtain ⟨rfl, rfl⟩ := jo0 hf
            exact j_iret (pc := 128) S hw hr hlk dH_restore_128
          · replace hf := jif hf hz9
            exact absurd (jo3 hf) hz9
        · replace hf := jif hf hc
          exact (jo2 hf).elim
  · replace hf := jit hf hc
    exact (jo2 hf).elim
set_option maxHeartbeats 4000000 in
set_option maxRecDepth 100000 in
theorem knH_restore (l : Launch) (D : va_G) (ca : Nat → ClassId) (ad : Nat → Nat) (sz : Nat) (σ : JS) (x1 : Int32) (vo : Int32) (σo : JS) (hf : mH_restore σ x1 = some (0, vo, σo)) : Met l yH_restore wsH_restore rmnH_restore (jPre D (xT ca) (xC ca ad σ) (xN (va_A (xC ca ad σ) sz)) sz [.ref (ad 0), .int x1]) (jQi D (xT ca) (xC ca ad) (va_A (xC ca ad σ) sz) vo σo) 0 0 (va_A (xC ca ad σ) sz) := by
  refine Met.ofW (cc := cH_restore) (maxL := 5) (ret := some .int) (by decide) rfl ?_
  intro p e s m args below meth c s₁ B hml hv
  obtain ⟨rfl, hsz, hP, hK, hD0, hN⟩ := hv
  subst hsz
  have hl := lv_entry [.ref (ad 0), .int x1] (n := 5) (Nat.le_of_ble_eq_true rfl)
  rw [lg_entry_eq]
  generalize (lg_sl [.ref (ad 0), .int x1] ++ List.replicate (5 - (lg_sl [.ref (ad 0), .int x1]).length) Slot.unset).toArray = ls at hl ⊢
  exact bnH_restore (fun q h => Or.inr h) ⟨B.exec, B.bytes, hml, findClass_of_methodNamed B.named, fun w h => atoms_spec (ws := wsH_restore) B.pre w (List.mem_cons_of_mem _ h)⟩ hN B.returns B.notSynchronized vo σo σ x1 ls hl ⟨hP, hD0.self, va_S.rf, hK⟩ hf
set_option maxHeartbeats 4000000 in
set_option maxRecDepth 100000 in
theorem bxH_restore {p : Program} {l : Launch} {e : Env} {s : State} {m : MethodId} {args : Array Value} {below : List Frame} {meth : Method} {c : Code} {D : va_G} {ca : Nat → ClassId} {ad : Nat → Nat} {A : Nat → Prop} (hA : ∀ q, s.heap.size ≤ q → A q) (S : CallFix p m c cH_restore 5 s args jall RH) (hN : xN A s) (hr : meth.sig.returnType = some .int) (hlk : meth.locks = false) (hl9 : l.stackTraces = false) (ht9 : ∀ x ∈ c.exceptionTable.toList, False) (ko : Nat) (vo : Int32) (σo : JS) (hko : ¬ ko = 0) (σ : JS) (x1 : Int32) (ls : Array Slot) (hl : lv_has ls 5 [(0, .ref (ad 0)), (1, .int x1)]) (hw : jH D (xT ca) (xC ca ad σ) A s.heap s.heap [] s) (hf : mH_restore σ x1 = some (ko, vo, σo)) : W p l e (headSpec wsH_restore rmxH_restore).room s m args below meth c s.heap [] 0 0 (jxQ below s (jE ko) (jB D (xT ca) (xC ca ad) A σo) A 1 6) (F0 m 0 ls []) := by
  have hx := S.1
  have hb := S.2.1
  unfold mH_restore at hf
  refine lv_aload_n (pc := 0) hx hb dH_restore_0 rfl (lv_at hl 0 rfl) ?_
  refine lv_iload_n (pc := 1) hx hb dH_restore_1 rfl (lv_at hl 1 rfl) ?_
  have hg := jbn_e hf; clear hf; obtain ⟨q1, h2, hf⟩ := hg
  refine j_cpi (pc := 2) (v := q1) (va_runV (As := [.int x1]) (rest := []) S (kH_isSlot l D ca ad _ σ x1 q1 h2) (cwV 1 S.2.2.2.2 (jgV k_440 k_442 ks_9 k_1 k_443) rfl rfl rfl (by decide +kernel) ⟨Nat.le_of_ble_eq_true rfl, Nat.le_of_ble_eq_true rfl⟩) (j_preV (As := [.int x1]) hw xN_b (xN_to hN hw hA) rfl xg_0) rfl rfl hl.1 rfl (lv_room (Nat.le_of_ble_eq_true rfl)) dH_restore_2 ⟨Nat.le_of_ble_eq_true rfl, Nat.le_of_ble_eq_true rfl⟩) ?_
  refine lv_if_ne (pc := 5) (tgt := 16) hx hb dH_restore_5 (by decide) (fun hc => ?_) (fun hc => ?_)
  · replace hf := jif hf hc
    refine lv_aload_n (pc := 16) hx hb dH_restore_16 rfl (lv_at hl 0 rfl) ?_
    refine j_get (pc := 17) (v := .int (σ 100 8)) S hw inH 0 0 11 xg_0 rfl (by decide) k_173 rfl dH_restore_17 ?_
    refine lv_if_eq (pc := 20) (tgt := 54) hx hb dH_restore_20 (by decide) (fun hc => ?_) (fun hc => ?_)
    · replace hf := jit hf hc
      obtain ⟨rfl, rfl, rfl⟩ := jo4 hf
      exact jx_throw (pc := 54) (own := RH) (cls := jE 2) (names := jnm) (ik := 68) (ic := 70) hx hb hl9 S.2.2.2.1 (by decide +kernel) (by decide +kernel) (S.2.2.2.2 _ k_340) (S.2.2.2.2 _ k_12) (jxw_of S hN jxw2) (hl.1.trans S.2.2.1.symm) dH_restore_54 dH_restore_57 dH_restore_58 dH_restore_61 ht9 (Nat.le_of_ble_eq_true rfl) (Nat.le_of_ble_eq_true rfl) (Nat.le_of_ble_eq_true rfl) (Nat.le_of_ble_eq_true rfl) hlk (Nat.le_refl _) (Nat.le_refl _) (jB_kept hw)
    · replace hf := jif hf hc
      refine lv_aload_n (pc := 23) hx hb dH_restore_23 rfl (lv_at hl 0 rfl) ?_
      refine j_get (pc := 24) (v := .ref (ad 3)) S hw inH 0 0 2 xg_0 rfl (by decide) k_164 rfl dH_restore_24 ?_
      refine j_get (pc := 27) (v := .ref (ad 19)) S hw inC 3 3 0 xg_3 rfl (by decide) k_109 rfl dH_restore_27 ?_
      refine lv_iload_n (pc := 30) hx hb dH_restore_30 rfl (lv_at hl 1 rfl) ?_
      have hg := jrd_e hf; clear hf; obtain ⟨h4, v3, e5, hf⟩ := hg
      refine j_zald (pc := 31) S hw 19 13 xg_19 xt_19 h4 e5 dH_restore_31 ?_
      refine lv_if_eq (pc := 32) (tgt := 54) hx hb dH_restore_32 (by decide) (fun hc => ?_) (fun hc => ?_)
      · replace hf := jit hf hc
        obtain ⟨rfl, rfl, rfl⟩ := jo4 hf
        exact jx_throw (pc := 54) (own := RH) (cls := jE 2) (names := jnm) (ik := 68) (ic := 70) hx hb hl9 S.2.2.2.1 (by decide +kernel) (by decide +kernel) (S.2.2.2.2 _ k_340) (S.2.2.2.2 _ k_12) (jxw_of S hN jxw2) (hl.1.trans S.2.2.1.symm) dH_restore_54 dH_restore_57 dH_restore_58 dH_restore_61 ht9 (Nat.le_of_ble_eq_true rfl) (Nat.le_of_ble_eq_true rfl) (Nat.le_of_ble_eq_true rfl) (Nat.le_of_ble_eq_true rfl) hlk (Nat.le_refl _) (Nat.le_refl _) (jB_kept hw)
      · replace hf := jif hf hc
        refine lv_aload_n (pc := 35) hx hb dH_restore_35 rfl (lv_at hl 0 rfl) ?_
        refine j_get (pc := 36) (v := .ref (ad 1)) S hw inH 0 0 0 xg_0 rfl (by decide) k_162 rfl dH_restore_36 ?_
        refine lv_aload_n (pc := 39) hx hb dH_restore_39 rfl (lv_at hl 0 rfl) ?_
        refine j_get (pc := 40) (v := .ref (ad 3)) S hw inH 0 0 2 xg_0 rfl (by decide) k_164 rfl dH_restore_40 ?_
        refine j_get (pc := 43) (v := .ref (ad 20)) S hw inC 3 3 1 xg_3 rfl (by decide) k_111 rfl dH_restore_43 ?_
        refine lv_iload_n (pc := 46) hx hb dH_restore_46 rfl (lv_at hl 1 rfl) ?_
        have hg := jrd_e hf; clear hf; obtain ⟨h7, v6, e8, hf⟩ := hg
        refine j_iald (pc := 47) S hw 20 14 xg_20 xt_20 h7 e8 dH_restore_47 ?_
        have hg := jbn_e hf; clear hf; obtain ⟨q9, h10, hf⟩ := hg
        refine j_cpi (pc := 48) (v := q9) (va_runV (As := [.int v6]) (rest := []) S (kJ_isCycleOn l D ca ad _ σ v6 q9 h10) (cwV 1 S.2.2.2.2 (jgV k_444 k_445 k_446 k_2 k_447) rfl rfl rfl (by decide +kernel) ⟨Nat.le_of_ble_eq_true rfl, Nat.le_of_ble_eq_true rfl⟩) (j_preV (As := [.int v6]) hw xN_b (xN_to hN hw hA) rfl xg_1) rfl rfl hl.1 rfl (lv_room (Nat.le_of_ble_eq_true rfl)) dH_restore_48 ⟨Nat.le_of_ble_eq_true rfl, Nat.le_of_ble_eq_true rfl⟩) ?_
        refine lv_if_eq (pc := 51) (tgt := 62) hx hb dH_restore_51 (by decide) (fun hc => ?_) (fun hc => ?_)
        · replace hf := jit hf hc
          refine lv_aload_n (pc := 62) hx hb dH_restore_62 rfl (lv_at hl 0 rfl) ?_
          refine j_get (pc := 63) (v := .ref (ad 3)) S hw inH 0 0 2 xg_0 rfl (by decide) k_164 rfl dH_restore_63 ?_
          refine j_get (pc := 66) (v := .ref (ad 20)) S hw inC 3 3 1 xg_3 rfl (by decide) k_111 rfl dH_restore_66 ?_
          refine lv_iload_n (pc := 69) hx hb dH_restore_69 rfl (lv_at hl 1 rfl) ?_
          have hg := jrd_e hf; clear hf; obtain ⟨h12, v11, e13, hf⟩ := hg
          refine j_iald (pc := 70) S hw 20 14 xg_20 xt_20 h12 e13 dH_restore_70 ?_
          refine lv_istore_n (pc := 71) (lv' := [(2, .int v11), (0, .ref (ad 0)), (1, .int x1)]) hx hb dH_restore_71 rfl hl (by decide) rfl (fun ls hl => ?_)
          refine lv_aload_n (pc := 72) hx hb dH_restore_72 rfl (lv_at hl 1 rfl) ?_
          refine j_get (pc := 73) (v := .ref (ad 1)) S hw inH 0 0 0 xg_0 rfl (by decide) k_162 rfl dH_restore_73 ?_
          refine j_get (pc := 76) (v := .int (σ 100 0)) S hw inJ 1 1 9 xg_1 rfl (by decide) k_50 rfl dH_restore_76 ?_
          refine lv_istore_n (pc := 79) (lv' := [(3, .int (σ 100 0)), (2, .int v11), (0, .ref (ad 0)), (1, .int x1)]) hx hb dH_restore_79 rfl hl (by decide) rfl (fun ls hl => ?_)
          refine lv_aload_n (pc := 80) hx hb dH_restore_80 rfl (lv_at hl 2 rfl) ?_
          refine j_get (pc := 81) (v := .ref (ad 3)) S hw inH 0 0 2 xg_0 rfl (by decide) k_164 rfl dH_restore_81 ?_
          refine j_get (pc := 84) (v := .ref (ad 22)) S hw inC 3 3 3 xg_3 rfl (by decide) k_115 rfl dH_restore_84 ?_
          refine lv_iload_n (pc := 87) hx hb dH_restore_87 rfl (lv_at hl 3 rfl) ?_
          refine lv_bipush (pc := 88) (v := (8 : Int32)) hx hb dH_restore_88 (by decide) ?_
          refine lv_imul (pc := 90) hx hb dH_restore_90 ?_
          refine lv_aload_n (pc := 91) hx hb dH_restore_91 rfl (lv_at hl 2 rfl) ?_
          refine j_get (pc := 92) (v := .ref (ad 29)) S hw inH 0 0 8 xg_0 rfl (by decide) k_170 rfl dH_restore_92 ?_
          refine lv_iconst (pc := 95) (v := (0 : Int32)) hx hb dH_restore_95 (by decide) ?_
          refine lv_bipush (pc := 96) (v := (8 : Int32)) hx hb dH_restore_96 (by decide) ?_
          have hg := jcp_e hf; clear hf; obtain ⟨h16, h17, h18, h19, h20, σ14, e15, hf⟩ := hg
          refine j_copyi (pc := 98) (rest := []) (ws' := xC ca ad σ14) S hw hl.1 k_462 k_416 k_415 k_14 22 29 16 23 xg_22 xg_29 xt_22 xt_29 h16 h17 h18 h19 h20 (by rw [e15]; exact xa_29) (Nat.le_of_ble_eq_true rfl) (Nat.le_of_ble_eq_true rfl) dH_restore_98 (fun H locs hw => ?_)
          refine lv_aload_n (pc := 101) hx hb dH_restore_101 rfl (lv_at hl 2 rfl) ?_
          refine lv_iload_n (pc := 102) hx hb dH_restore_102 rfl (lv_at hl 1 rfl) ?_
          refine lv_aload_n (pc := 103) hx hb dH_restore_103 rfl (lv_at hl 2 rfl) ?_
          refine j_get (pc := 104) (v := .ref (ad 3)) S hw inH 0 0 2 xg_0 rfl (by decide) k_164 rfl dH_restore_104 ?_
          refine j_get (pc := 107) (v := .ref (ad 21)) S hw inC 3 3 2 xg_3 rfl (by decide) k_113 rfl dH_restore_107 ?_
          refine lv_iload_n (pc := 110) hx hb dH_restore_110 rfl (lv_at hl 3 rfl) ?_
          have hg := jrd_e hf; clear hf; obtain ⟨h22, v21, e23, hf⟩ := hg
          refine j_iald (pc := 111) S hw 21 15 xg_21 xt_21 h22 e23 dH_restore_111 ?_
          have hg := jbn_e hf; clear hf; obtain ⟨q24, h25, hf⟩ := hg
          by_cases hz9 : q24.1 = 0
          · replace hf := jit hf hz9
            refine j_calli (pc := 112) (C := xC ca ad) (σ' := q24.2.2) (v := q24.2.1) hw hA (va_runV (As := [.int v11, .int v21]) (rest := []) S (knH_bringToWanted l D ca ad _ σ14 v11 v21 q24.2.1 q24.2.2 (jq0 h25 hz9)) (cwV 2 S.2.2.2.2 (jgV k_463 k_465 ks_11 k_1 k_466) rfl rfl rfl (by decide +kernel) ⟨Nat.le_of_ble_eq_true rfl, Nat.le_of_ble_eq_true rfl⟩) (j_preV (As := [.int v11, .int v21]) hw xN_b (xN_to hN hw hA) rfl xg_0) rfl rfl hl.1 rfl (lv_room (Nat.le_of_ble_eq_true rfl)) dH_restore_112 ⟨Nat.le_of_ble_eq_true rfl, Nat.le_of_ble_eq_true rfl⟩) (fun H locs hw => ?_)
            refine lv_istore (pc := 115) (lv' := [(4, .int q24.2.1), (3, .int (σ 100 0)), (2, .int v11), (0, .ref (ad 0)), (1, .int x1)]) hx hb dH_restore_115 hl (by decide) rfl (fun ls hl => ?_)
            refine lv_aload_n (pc := 117) hx hb dH_restore_117 rfl (lv_at hl 3 rfl) ?_
            refine j_get (pc := 118) (v := .ref (ad 28)) S hw inH 0 0 7 xg_0 rfl (by decide) k_169 rfl dH_restore_118 ?_
            refine lv_iload_n (pc := 121) hx hb dH_restore_121 rfl (lv_at hl 2 rfl) ?_
            refine lv_iload_n (pc := 122) hx hb dH_restore_122 rfl (lv_at hl 1 rfl) ?_
            refine lv_iconst (pc := 123) (v := (1 : Int32)) hx hb dH_restore_123 (by decide) ?_
            refine lv_iadd (pc := 124) hx hb dH_restore_124 ?_
            have hg := jwr_e hf; clear hf; obtain ⟨h27, σ26, e28, hf⟩ := hg
            refine j_iast (pc := 125) (ws' := xC ca ad σ26) S hw 28 22 xg_28 xt_28 h27 (by rw [e28]; exact xs_28) dH_restore_125 (fun H locs hw => ?_)
            refine lv_iload (pc := 126) hx hb dH_restore_126 (lv_at hl 0 rfl) ?_
            exact absurd (jo1 hf) hko
          · replace hf := jif hf hz9
            obtain ⟨rfl, rfl, rfl⟩ := jo4 hf
            exact jx_passV (pc := 112) (As := [.int v11, .int v21]) (rest := []) (C := xC ca ad) S hw hA ht9 hlk (kxH_bringToWanted l hl9 D ca ad _ σ14 v11 v21 q24.1 q24.2.1 q24.2.2 hz9 (jq1 h25)) (cwV 2 S.2.2.2.2 (jgV k_463 k_465 ks_11 k_1 k_466) rfl rfl rfl (by decide +kernel) ⟨Nat.le_of_ble_eq_true rfl, Nat.le_of_ble_eq_true rfl⟩) (j_preV (As := [.int v11, .int v21]) hw xN_b (xN_to hN hw hA) rfl xg_0) rfl hl.1 (Nat.le_of_ble_eq_true rfl) dH_restore_112 (Nat.le_of_ble_eq_true rfl) (Nat.le_of_ble_eq_true rfl)
        · replace hf := jif hf hc
          obtain ⟨rfl, rfl, rfl⟩ := jo4 hf
          exact jx_throw (pc := 54) (own := RH) (cls := jE 2) (names := jnm) (ik := 68) (ic := 70) hx hb hl9 S.2.2.2.1 (by decide +kernel) (by decide +kernel) (S.2.2.2.2 _ k_340) (S.2.2.2.2 _ k_12) (jxw_of S hN jxw2) (hl.1.trans S.2.2.1.symm) dH_restore_54 dH_restore_57 dH_restore_58 dH_restore_61 ht9 (Nat.le_of_ble_eq_true rfl) (Nat.le_of_ble_eq_true rfl) (Nat.le_of_ble_eq_true rfl) (Nat.le_of_ble_eq_true rfl) hlk (Nat.le_refl _) (Nat.le_refl _) (jB_kept hw)
  · replace hf := jit hf hc
    obtain ⟨rfl, rfl, rfl⟩ := jo4 hf
    exact jx_throw (pc := 8) (own := RH) (cls := jE 1) (names := jnm) (ik := 61) (ic := 63) hx hb hl9 S.2.2.2.1 (by decide +kernel) (by decide +kernel) (S.2.2.2.2 _ k_278) (S.2.2.2.2 _ k_11) (jxw_of S hN jxw1) (hl.1.trans S.2.2.1.symm) dH_restore_8 dH_restore_11 dH_restore_12 dH_restore_15 ht9 (Nat.le_of_ble_eq_true rfl) (Nat.le_of_ble_eq_true rfl) (Nat.le_of_ble_eq_true rfl) (Nat.le_of_ble_eq_true rfl) hlk (Nat.le_refl _) (Nat.le_refl _) (jB_kept hw)
set_option maxHeartbeats 4000000 in
set_option maxRecDepth 100000 in
theorem kxH_restore (l : Launch) (hl9 : l.stackTraces = false) (D : va_G) (ca : Nat → ClassId) (ad : Nat → Nat) (sz : Nat) (σ : JS) (x1 : Int32) (ko : Nat) (vo : Int32) (σo : JS) (hko : ¬ ko = 0) (hf : mH_restore σ x1 = some (ko, vo, σo)) : jxM l yH_restore wsH_restore rmxH_restore (jPre D (xT ca) (xC ca ad σ) (xN (va_A (xC ca ad σ) sz)) sz [.ref (ad 0), .int x1]) (jE ko) (jB D (xT ca) (xC ca ad) (va_A (xC ca ad σ) sz) σo) (va_A (xC ca ad σ) sz) 1 6 := by
  refine jxM_of (cc := cH_restore) (maxL := 5) (ret := some .int) (by decide) rfl ?_
  intro p e s m args below meth c s₁ B hml hnil hv
  obtain ⟨rfl, hsz, hP, hK, hD0, hN⟩ := hv
  subst hsz
  have hl := lv_entry [.ref (ad 0), .int x1] (n := 5) (Nat.le_of_ble_eq_true rfl)
  rw [lg_entry_eq]
  generalize (lg_sl [.ref (ad 0), .int x1] ++ List.replicate (5 - (lg_sl [.ref (ad 0), .int x1]).length) Slot.unset).toArray = ls at hl ⊢
  exact bxH_restore (fun q h => Or.inr h) ⟨B.exec, B.bytes, hml, findClass_of_methodNamed B.named, fun w h => atoms_spec (ws := wsH_restore) B.pre w (List.mem_cons_of_mem _ h)⟩ hN B.returns B.notSynchronized hl9 hnil ko vo σo hko σ x1 ls hl ⟨hP, hD0.self, va_S.rf, hK⟩ hf

def rmJ_isChangeOf : Room := { frames := 1, cells := 0, slots := 0, locals := 20 }
def mJ_isChangeOf (σ : JS) (x1 : Int32) (x2 : Int32) : Option (Int32) :=
  jrd σ 6 121 x2 fun v1 =>
  if v1 = (1 : Int32) then
  (jrd σ 8 121 x2 fun v4 =>
  jbn (mH_fileOf σ v4) fun q7 =>
  if q7 = x1 then
  (some (1 : Int32))
  else
  (some (0 : Int32)))
  else
  (some (0 : Int32))
set_option maxHeartbeats 4000000 in
set_option maxRecDepth 100000 in
theorem bJ_isChangeOf {p : Program} {l : Launch} {e : Env} {s : State} {m : MethodId} {args : Array Value} {below : List Frame} {meth : Method} {c : Code} {D : va_G} {ca : Nat → ClassId} {ad : Nat → Nat} {A : Nat → Prop} (hA : ∀ q, s.heap.size ≤ q → A q) (S : CallFix p m c cJ_isChangeOf 3 s args jall RJ) (hN : xN A s) (hr : meth.sig.returnType = some .boolean) (hlk : meth.locks = false) (out : Int32) (σ : JS) (x1 : Int32) (x2 : Int32) (ls : Array Slot) (hl : lv_has ls 3 [(0, .ref (ad 1)), (1, .int x1), (2, .int x2)]) (hw : jH D (xT ca) (xC ca ad σ) A s.heap s.heap [] s) (hf : mJ_isChangeOf σ x1 x2 = some out) : W p l e (headSpec wsJ_isChangeOf rmJ_isChangeOf).room s m args below meth c s.heap [] 0 0 (MQ below (jSi out) args s 0 0 (fun _ => False)) (F0 m 0 ls []) := by
  have hx := S.1
  have hb := S.2.1
  unfold mJ_isChangeOf at hf
  refine lv_aload_n (pc := 0) hx hb dJ_isChangeOf_0 rfl (lv_at hl 0 rfl) ?_
  refine j_get (pc := 1) (v := .ref (ad 6)) S hw inJ 1 1 0 xg_1 rfl (by decide) k_29 rfl dJ_isChangeOf_1 ?_
  refine lv_iload_n (pc := 4) hx hb dJ_isChangeOf_4 rfl (lv_at hl 2 rfl) ?_
  have hg := jrd_e hf; clear hf; obtain ⟨h2, v1, e3, hf⟩ := hg
  refine j_iald (pc := 5) S hw 6 0 xg_6 xt_6 h2 e3 dJ_isChangeOf_5 ?_
  refine lv_iconst (pc := 6) (v := (1 : Int32)) hx hb dJ_isChangeOf_6 (by decide) ?_
  refine lv_icmp_ne (pc := 7) (tgt := 27) hx hb dJ_isChangeOf_7 (by decide) (fun hc => ?_) (fun hc => ?_)
  · replace hf := jif hf hc
    refine lv_iconst (pc := 27) (v := (0 : Int32)) hx hb dJ_isChangeOf_27 (by decide) ?_
    obtain rfl := jsm hf
    exact j_zpr (pc := 28) S hr hlk (Or.inl rfl) dJ_isChangeOf_28
  · replace hf := jit hf hc
    refine lv_aload_n (pc := 10) hx hb dJ_isChangeOf_10 rfl (lv_at hl 0 rfl) ?_
    refine j_get (pc := 11) (v := .ref (ad 8)) S hw inJ 1 1 2 xg_1 rfl (by decide) k_35 rfl dJ_isChangeOf_11 ?_
    refine lv_iload_n (pc := 14) hx hb dJ_isChangeOf_14 rfl (lv_at hl 2 rfl) ?_
    have hg := jrd_e hf; clear hf; obtain ⟨h5, v4, e6, hf⟩ := hg
    refine j_iald (pc := 15) S hw 8 2 xg_8 xt_8 h5 e6 dJ_isChangeOf_15 ?_
    have hg := jbn_e hf; clear hf; obtain ⟨q7, h8, hf⟩ := hg
    refine j_cpi (pc := 16) (v := q7) (va_runSN (host := "JournalHouse") (As := [.int v4]) (rest := []) S (kH_fileOf l D ca ad _ σ v4 q7 h8) ⟨va_cnB 1 S.2.2.2.2 (jgN k_253) rfl rfl rfl (xN_w hN b_401 _) (S.2.2.2.2 _ k_1) (by decide +kernel) ⟨Nat.le_of_ble_eq_true rfl, Nat.le_of_ble_eq_true rfl⟩, S.2.2.2.2 _ k_252, trivial⟩ (j_preS hw xN_b (xN_to hN hw hA)) rfl rfl hl.1 rfl (lv_room (Nat.le_of_ble_eq_true rfl)) dJ_isChangeOf_16 ⟨Nat.le_of_ble_eq_true rfl, Nat.le_of_ble_eq_true rfl⟩) ?_
    refine lv_iload_n (pc := 19) hx hb dJ_isChangeOf_19 rfl (lv_at hl 1 rfl) ?_
    refine lv_icmp_ne (pc := 20) (tgt := 27) hx hb dJ_isChangeOf_20 (by decide) (fun hc => ?_) (fun hc => ?_)
    · replace hf := jif hf hc
      refine lv_iconst (pc := 27) (v := (0 : Int32)) hx hb dJ_isChangeOf_27 (by decide) ?_
      obtain rfl := jsm hf
      exact j_zpr (pc := 28) S hr hlk (Or.inl rfl) dJ_isChangeOf_28
    · replace hf := jit hf hc
      refine lv_iconst (pc := 23) (v := (1 : Int32)) hx hb dJ_isChangeOf_23 (by decide) ?_
      refine lv_goto (pc := 24) (tgt := 28) hx hb dJ_isChangeOf_24 (by decide) ?_
      obtain rfl := jsm hf
      exact j_zpr (pc := 28) S hr hlk (Or.inr rfl) dJ_isChangeOf_28
set_option maxHeartbeats 4000000 in
set_option maxRecDepth 100000 in
theorem kJ_isChangeOf (l : Launch) (D : va_G) (ca : Nat → ClassId) (ad : Nat → Nat) (sz : Nat) (σ : JS) (x1 : Int32) (x2 : Int32) (out : Int32) (hf : mJ_isChangeOf σ x1 x2 = some out) : Met l yJ_isChangeOf wsJ_isChangeOf rmJ_isChangeOf (jPre D (xT ca) (xC ca ad σ) (xN (va_A (xC ca ad σ) sz)) sz [.ref (ad 1), .int x1, .int x2]) (jSi out) 0 0 (fun _ => False) := by
  refine Met.ofW (cc := cJ_isChangeOf) (maxL := 3) (ret := some .boolean) (by decide) rfl ?_
  intro p e s m args below meth c s₁ B hml hv
  obtain ⟨rfl, hsz, hP, hK, hD0, hN⟩ := hv
  subst hsz
  have hl := lv_entry [.ref (ad 1), .int x1, .int x2] (n := 3) (Nat.le_of_ble_eq_true rfl)
  rw [lg_entry_eq]
  generalize (lg_sl [.ref (ad 1), .int x1, .int x2] ++ List.replicate (3 - (lg_sl [.ref (ad 1), .int x1, .int x2]).length) Slot.unset).toArray = ls at hl ⊢
  exact bJ_isChangeOf (fun q h => Or.inr h) ⟨B.exec, B.bytes, hml, findClass_of_methodNamed B.named, fun w h => atoms_spec (ws := wsJ_isChangeOf) B.pre w (List.mem_cons_of_mem _ h)⟩ hN B.returns B.notSynchronized out σ x1 x2 ls hl ⟨hP, hD0.self, va_S.rf, hK⟩ hf

