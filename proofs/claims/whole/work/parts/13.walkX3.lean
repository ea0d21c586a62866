def rmH_boundary : Room := { frames := 1, cells := 0, slots := 0, locals := 22 }
def mH_boundary (σ : JS) (x1 : Int32) (x2 : Int32) : Option (Int32) :=
  jbn (mH_isFile σ x1) fun q1 =>
  if q1 = 0 then
  (some (0 : Int32))
  else
  (jbn (mJ_isBoundary σ x1 x2) fun q3 =>
  if q3 = 0 then
  (some (0 : Int32))
  else
  (some (1 : Int32)))
set_option maxHeartbeats 4000000 in
set_option maxRecDepth 100000 in
theorem bH_boundary {p : Program} {l : Launch} {e : Env} {s : State} {m : MethodId} {args : Array Value} {below : List Frame} {meth : Method} {c : Code} {D : va_G} {ca : Nat → ClassId} {ad : Nat → Nat} {A : Nat → Prop} (hA : ∀ q, s.heap.size ≤ q → A q) (S : CallFix p m c cH_boundary 3 s args jall RH) (hN : xN A s) (hr : meth.sig.returnType = some .boolean) (hlk : meth.locks = false) (out : Int32) (σ : JS) (x1 : Int32) (x2 : Int32) (ls : Array Slot) (hl : lv_has ls 3 [(0, .ref (ad 0)), (1, .int x1), (2, .int x2)]) (hw : jH D (xT ca) (xC ca ad σ) A s.heap s.heap [] s) (hf : mH_boundary σ x1 x2 = some out) : W p l e (headSpec wsH_boundary rmH_boundary).room s m args below meth c s.heap [] 0 0 (MQ below (jSi out) args s 0 0 (fun _ => False)) (F0 m 0 ls []) := by
  have hx := S.1
  have hb := S.2.1
  unfold mH_boundary at hf
  refine lv_aload_n (pc := 0) hx hb dH_boundary_0 rfl (lv_at hl 0 rfl) ?_
  refine lv_iload_n (pc := 1) hx hb dH_boundary_1 rfl (lv_at hl 1 rfl) ?_
  have hg := jbn_e hf; clear hf; obtain ⟨q1, h2, hf⟩ := hg
  refine j_cpi (pc := 2) (v := q1) (va_runV (As := [.int x1]) (rest := []) S (kH_isFile l D ca ad _ σ x1 q1 h2) (cwV 1 S.2.2.2.2 (jgV k_207 k_209 ks_0 k_1 k_210) rfl rfl rfl (by decide +kernel) ⟨Nat.le_of_ble_eq_true rfl, Nat.le_of_ble_eq_true rfl⟩) (j_preV (As := [.int x1]) hw xN_b (xN_to hN hw hA) rfl xg_0) rfl rfl hl.1 rfl (lv_room (Nat.le_of_ble_eq_true rfl)) dH_boundary_2 ⟨Nat.le_of_ble_eq_true rfl, Nat.le_of_ble_eq_true rfl⟩) ?_
  refine lv_if_eq (pc := 5) (tgt := 24) hx hb dH_boundary_5 (by decide) (fun hc => ?_) (fun hc => ?_)
  · replace hf := jit hf hc
    refine lv_iconst (pc := 24) (v := (0 : Int32)) hx hb dH_boundary_24 (by decide) ?_
    obtain rfl := jsm hf
    exact j_zpr (pc := 25) S hr hlk (Or.inl rfl) dH_boundary_25
  · replace hf := jif hf hc
    refine lv_aload_n (pc := 8) hx hb dH_boundary_8 rfl (lv_at hl 0 rfl) ?_
    refine j_get (pc := 9) (v := .ref (ad 1)) S hw inH 0 0 0 xg_0 rfl (by decide) k_162 rfl dH_boundary_9 ?_
    refine lv_iload_n (pc := 12) hx hb dH_boundary_12 rfl (lv_at hl 1 rfl) ?_
    refine lv_iload_n (pc := 13) hx hb dH_boundary_13 rfl (lv_at hl 2 rfl) ?_
    have hg := jbn_e hf; clear hf; obtain ⟨q3, h4, hf⟩ := hg
    refine j_cpi (pc := 14) (v := q3) (va_runV (As := [.int x1, .int x2]) (rest := []) S (kJ_isBoundary l D ca ad _ σ x1 x2 q3 h4) (cwV 2 S.2.2.2.2 (jgV k_231 k_232 k_233 k_2 k_234) rfl rfl rfl (by decide +kernel) ⟨Nat.le_of_ble_eq_true rfl, Nat.le_of_ble_eq_true rfl⟩) (j_preV (As := [.int x1, .int x2]) hw xN_b (xN_to hN hw hA) rfl xg_1) rfl rfl hl.1 rfl (lv_room (Nat.le_of_ble_eq_true rfl)) dH_boundary_14 ⟨Nat.le_of_ble_eq_true rfl, Nat.le_of_ble_eq_true rfl⟩) ?_
    refine lv_if_eq (pc := 17) (tgt := 24) hx hb dH_boundary_17 (by decide) (fun hc => ?_) (fun hc => ?_)
    · replace hf := jit hf hc
      refine lv_iconst (pc := 24) (v := (0 : Int32)) hx hb dH_boundary_24 (by decide) ?_
      obtain rfl := jsm hf
      exact j_zpr (pc := 25) S hr hlk (Or.inl rfl) dH_boundary_25
    · replace hf := jif hf hc
      refine lv_iconst (pc := 20) (v := (1 : Int32)) hx hb dH_boundary_20 (by decide) ?_
      refine lv_goto (pc := 21) (tgt := 25) hx hb dH_boundary_21 (by decide) ?_
      obtain rfl := jsm hf
      exact j_zpr (pc := 25) S hr hlk (Or.inr rfl) dH_boundary_25
set_option maxHeartbeats 4000000 in
set_option maxRecDepth 100000 in
theorem kH_boundary (l : Launch) (D : va_G) (ca : Nat → ClassId) (ad : Nat → Nat) (sz : Nat) (σ : JS) (x1 : Int32) (x2 : Int32) (out : Int32) (hf : mH_boundary σ x1 x2 = some out) : Met l yH_boundary wsH_boundary rmH_boundary (jPre D (xT ca) (xC ca ad σ) (xN (va_A (xC ca ad σ) sz)) sz [.ref (ad 0), .int x1, .int x2]) (jSi out) 0 0 (fun _ => False) := by
  refine Met.ofW (cc := cH_boundary) (maxL := 3) (ret := some .boolean) (by decide) rfl ?_
  intro p e s m args below meth c s₁ B hml hv
  obtain ⟨rfl, hsz, hP, hK, hD0, hN⟩ := hv
  subst hsz
  have hl := lv_entry [.ref (ad 0), .int x1, .int x2] (n := 3) (Nat.le_of_ble_eq_true rfl)
  rw [lg_entry_eq]
  generalize (lg_sl [.ref (ad 0), .int x1, .int x2] ++ List.replicate (3 - (lg_sl [.ref (ad 0), .int x1, .int x2]).length) Slot.unset).toArray = ls at hl ⊢
  exact bH_boundary (fun q h => Or.inr h) ⟨B.exec, B.bytes, hml, findClass_of_methodNamed B.named, fun w h => atoms_spec (ws := wsH_boundary) B.pre w (List.mem_cons_of_mem _ h)⟩ hN B.returns B.notSynchronized out σ x1 x2 ls hl ⟨hP, hD0.self, va_S.rf, hK⟩ hf

def rmH_partOfChange : Room := { frames := 1, cells := 0, slots := 0, locals := 20 }
def mH_partOfChange (σ : JS) (x1 : Int32) (x2 : Int32) : Option (Int64) :=
  if x2 = 2 then
  (jrd σ 8 121 x1 fun v1 =>
  jbn (mH_fileOf σ v1) fun q4 =>
  some q4.toInt64)
  else
  (if x2 = 3 then
  (jrd σ 8 121 x1 fun v6 =>
  jbn (mH_recordOf σ v6) fun q9 =>
  some q9.toInt64)
  else
  (if x2 = 4 then
  (jrd σ 9 121 x1 fun v11 =>
  some v11.toInt64)
  else
  (if x2 = 5 then
  (jrd σ 10 121 x1 fun v14 =>
  some v14.toInt64)
  else
  (some (1099511627776 : Int64)))))
set_option maxHeartbeats 4000000 in
set_option maxRecDepth 100000 in
theorem bH_partOfChange {p : Program} {l : Launch} {e : Env} {s : State} {m : MethodId} {args : Array Value} {below : List Frame} {meth : Method} {c : Code} {D : va_G} {ca : Nat → ClassId} {ad : Nat → Nat} {A : Nat → Prop} (hA : ∀ q, s.heap.size ≤ q → A q) (S : CallFix p m c cH_partOfChange 3 s args jall RH) (hN : xN A s) (hr : meth.sig.returnType = some .long) (hlk : meth.locks = false) (out : Int64) (σ : JS) (x1 : Int32) (x2 : Int32) (ls : Array Slot) (hl : lv_has ls 3 [(0, .ref (ad 0)), (1, .int x1), (2, .int x2)]) (hw : jH D (xT ca) (xC ca ad σ) A s.heap s.heap [] s) (hf : mH_partOfChange σ x1 x2 = some out) : W p l e (headSpec wsH_partOfChange rmH_partOfChange).room s m args below meth c s.heap [] 0 0 (MQ below (jSl out) args s 0 0 (fun _ => False)) (F0 m 0 ls []) := by
  have hx := S.1
  have hb := S.2.1
  unfold mH_partOfChange at hf
  refine lv_iload_n (pc := 0) hx hb dH_partOfChange_0 rfl (lv_at hl 2 rfl) ?_
  by_cases hs0 : x2 = (2 : Int32)
  · replace hf := jit hf hs0
    refine lv_tableIn (pc := 1) (tgt := 32) hx hb dH_partOfChange_1 (by rw [hs0]; decide) (by rw [hs0]; decide) (by rw [hs0]; rfl) (by decide) ?_
    refine lv_aload_n (pc := 32) hx hb dH_partOfChange_32 rfl (lv_at hl 0 rfl) ?_
    refine j_get (pc := 33) (v := .ref (ad 1)) S hw inH 0 0 0 xg_0 rfl (by decide) k_162 rfl dH_partOfChange_33 ?_
    refine j_get (pc := 36) (v := .ref (ad 8)) S hw inJ 1 1 2 xg_1 rfl (by decide) k_37 rfl dH_partOfChange_36 ?_
    refine lv_iload_n (pc := 39) hx hb dH_partOfChange_39 rfl (lv_at hl 1 rfl) ?_
    have hg := jrd_e hf; clear hf; obtain ⟨h2, v1, e3, hf⟩ := hg
    refine j_iald (pc := 40) S hw 8 2 xg_8 xt_8 h2 e3 dH_partOfChange_40 ?_
    have hg := jbn_e hf; clear hf; obtain ⟨q4, h5, hf⟩ := hg
    refine j_cpi (pc := 41) (v := q4) (va_runS (As := [.int v1]) (rest := []) S (kH_fileOf l D ca ad _ σ v1 q4 h5) (cwS 1 S.2.2.2.2 (jgS k_251 k_252 k_1 k_253) rfl rfl rfl (by decide +kernel) ⟨Nat.le_of_ble_eq_true rfl, Nat.le_of_ble_eq_true rfl⟩) (j_preS hw xN_b (xN_to hN hw hA)) rfl rfl hl.1 rfl (lv_room (Nat.le_of_ble_eq_true rfl)) dH_partOfChange_41 ⟨Nat.le_of_ble_eq_true rfl, Nat.le_of_ble_eq_true rfl⟩) ?_
    refine lv_i2l (pc := 44) (v := q4.toInt64) hx hb dH_partOfChange_44 rfl ?_
    obtain rfl := jsm hf
    exact j_lpr (pc := 45) S hr hlk dH_partOfChange_45
  · replace hf := jif hf hs0
    by_cases hs1 : x2 = (3 : Int32)
    · replace hf := jit hf hs1
      refine lv_tableIn (pc := 1) (tgt := 46) hx hb dH_partOfChange_1 (by rw [hs1]; decide) (by rw [hs1]; decide) (by rw [hs1]; rfl) (by decide) ?_
      refine lv_aload_n (pc := 46) hx hb dH_partOfChange_46 rfl (lv_at hl 0 rfl) ?_
      refine j_get (pc := 47) (v := .ref (ad 1)) S hw inH 0 0 0 xg_0 rfl (by decide) k_162 rfl dH_partOfChange_47 ?_
      refine j_get (pc := 50) (v := .ref (ad 8)) S hw inJ 1 1 2 xg_1 rfl (by decide) k_37 rfl dH_partOfChange_50 ?_
      refine lv_iload_n (pc := 53) hx hb dH_partOfChange_53 rfl (lv_at hl 1 rfl) ?_
      have hg := jrd_e hf; clear hf; obtain ⟨h7, v6, e8, hf⟩ := hg
      refine j_iald (pc := 54) S hw 8 2 xg_8 xt_8 h7 e8 dH_partOfChange_54 ?_
      have hg := jbn_e hf; clear hf; obtain ⟨q9, h10, hf⟩ := hg
      refine j_cpi (pc := 55) (v := q9) (va_runS (As := [.int v6]) (rest := []) S (kH_recordOf l D ca ad _ σ v6 q9 h10) (cwS 1 S.2.2.2.2 (jgS k_254 k_255 k_1 k_256) rfl rfl rfl (by decide +kernel) ⟨Nat.le_of_ble_eq_true rfl, Nat.le_of_ble_eq_true rfl⟩) (j_preS hw xN_b (xN_to hN hw hA)) rfl rfl hl.1 rfl (lv_room (Nat.le_of_ble_eq_true rfl)) dH_partOfChange_55 ⟨Nat.le_of_ble_eq_true rfl, Nat.le_of_ble_eq_true rfl⟩) ?_
      refine lv_i2l (pc := 58) (v := q9.toInt64) hx hb dH_partOfChange_58 rfl ?_
      obtain rfl := jsm hf
      exact j_lpr (pc := 59) S hr hlk dH_partOfChange_59
    · replace hf := jif hf hs1
      by_cases hs2 : x2 = (4 : Int32)
      · replace hf := jit hf hs2
        refine lv_tableIn (pc := 1) (tgt := 60) hx hb dH_partOfChange_1 (by rw [hs2]; decide) (by rw [hs2]; decide) (by rw [hs2]; rfl) (by decide) ?_
        refine lv_aload_n (pc := 60) hx hb dH_partOfChange_60 rfl (lv_at hl 0 rfl) ?_
        refine j_get (pc := 61) (v := .ref (ad 1)) S hw inH 0 0 0 xg_0 rfl (by decide) k_162 rfl dH_partOfChange_61 ?_
        refine j_get (pc := 64) (v := .ref (ad 9)) S hw inJ 1 1 3 xg_1 rfl (by decide) k_40 rfl dH_partOfChange_64 ?_
        refine lv_iload_n (pc := 67) hx hb dH_partOfChange_67 rfl (lv_at hl 1 rfl) ?_
        have hg := jrd_e hf; clear hf; obtain ⟨h12, v11, e13, hf⟩ := hg
        refine j_iald (pc := 68) S hw 9 3 xg_9 xt_9 h12 e13 dH_partOfChange_68 ?_
        refine lv_i2l (pc := 69) (v := v11.toInt64) hx hb dH_partOfChange_69 rfl ?_
        obtain rfl := jsm hf
        exact j_lpr (pc := 70) S hr hlk dH_partOfChange_70
      · replace hf := jif hf hs2
        by_cases hs3 : x2 = (5 : Int32)
        · replace hf := jit hf hs3
          refine lv_tableIn (pc := 1) (tgt := 71) hx hb dH_partOfChange_1 (by rw [hs3]; decide) (by rw [hs3]; decide) (by rw [hs3]; rfl) (by decide) ?_
          refine lv_aload_n (pc := 71) hx hb dH_partOfChange_71 rfl (lv_at hl 0 rfl) ?_
          refine j_get (pc := 72) (v := .ref (ad 1)) S hw inH 0 0 0 xg_0 rfl (by decide) k_162 rfl dH_partOfChange_72 ?_
          refine j_get (pc := 75) (v := .ref (ad 10)) S hw inJ 1 1 4 xg_1 rfl (by decide) k_43 rfl dH_partOfChange_75 ?_
          refine lv_iload_n (pc := 78) hx hb dH_partOfChange_78 rfl (lv_at hl 1 rfl) ?_
          have hg := jrd_e hf; clear hf; obtain ⟨h15, v14, e16, hf⟩ := hg
          refine j_iald (pc := 79) S hw 10 4 xg_10 xt_10 h15 e16 dH_partOfChange_79 ?_
          refine lv_i2l (pc := 80) (v := v14.toInt64) hx hb dH_partOfChange_80 rfl ?_
          obtain rfl := jsm hf
          exact j_lpr (pc := 81) S hr hlk dH_partOfChange_81
        · replace hf := jif hf hs3
          refine lv_tableOut (pc := 1) (tgt := 82) hx hb dH_partOfChange_1 (by have h0 := lv_neT hs0 (a := 2) (by decide); have h0 := lv_neT hs1 (a := 3) (by decide); have h0 := lv_neT hs2 (a := 4) (by decide); have h0 := lv_neT hs3 (a := 5) (by decide); omega) (by decide) ?_
          refine lv_ldc2 (pc := 82) (v := (1099511627776 : Int64)) hx hb S.2.2.2.1 (S.2.2.2.2 _ k_214) dH_partOfChange_82 ?_
          obtain rfl := jsm hf
          exact j_lpr (pc := 85) S hr hlk dH_partOfChange_85
set_option maxHeartbeats 4000000 in
set_option maxRecDepth 100000 in
theorem kH_partOfChange (l : Launch) (D : va_G) (ca : Nat → ClassId) (ad : Nat → Nat) (sz : Nat) (σ : JS) (x1 : Int32) (x2 : Int32) (out : Int64) (hf : mH_partOfChange σ x1 x2 = some out) : Met l yH_partOfChange wsH_partOfChange rmH_partOfChange (jPre D (xT ca) (xC ca ad σ) (xN (va_A (xC ca ad σ) sz)) sz [.ref (ad 0), .int x1, .int x2]) (jSl out) 0 0 (fun _ => False) := by
  refine Met.ofW (cc := cH_partOfChange) (maxL := 3) (ret := some .long) (by decide) rfl ?_
  intro p e s m args below meth c s₁ B hml hv
  obtain ⟨rfl, hsz, hP, hK, hD0, hN⟩ := hv
  subst hsz
  have hl := lv_entry [.ref (ad 0), .int x1, .int x2] (n := 3) (Nat.le_of_ble_eq_true rfl)
  rw [lg_entry_eq]
  generalize (lg_sl [.ref (ad 0), .int x1, .int x2] ++ List.replicate (3 - (lg_sl [.ref (ad 0), .int x1, .int x2]).length) Slot.unset).toArray = ls at hl ⊢
  exact bH_partOfChange (fun q h => Or.inr h) ⟨B.exec, B.bytes, hml, findClass_of_methodNamed B.named, fun w h => atoms_spec (ws := wsH_partOfChange) B.pre w (List.mem_cons_of_mem _ h)⟩ hN B.returns B.notSynchronized out σ x1 x2 ls hl ⟨hP, hD0.self, va_S.rf, hK⟩ hf

def rmH_entry : Room := { frames := 2, cells := 0, slots := 0, locals := 42 }
def mH_entry (σ : JS) (x1 : Int32) (x2 : Int32) : Option (Int64) :=
  jbn (mJ_isKept σ x1) fun q1 =>
  if q1 = 0 then
  (some (1099511627776 : Int64))
  else
  (if x2 = 0 then
  (jrd σ 6 121 x1 fun v3 =>
  some v3.toInt64)
  else
  (if x2 = 1 then
  (jrd σ 7 121 x1 fun v6 =>
  some v6.toInt64)
  else
  (jrd σ 6 121 x1 fun v9 =>
  if v9 = (1 : Int32) then
  (jbn (mH_partOfChange σ x1 x2) fun q12 =>
  some q12)
  else
  (some (1099511627776 : Int64)))))
set_option maxHeartbeats 4000000 in
set_option maxRecDepth 100000 in
theorem bH_entry {p : Program} {l : Launch} {e : Env} {s : State} {m : MethodId} {args : Array Value} {below : List Frame} {meth : Method} {c : Code} {D : va_G} {ca : Nat → ClassId} {ad : Nat → Nat} {A : Nat → Prop} (hA : ∀ q, s.heap.size ≤ q → A q) (S : CallFix p m c cH_entry 3 s args jall RH) (hN : xN A s) (hr : meth.sig.returnType = some .long) (hlk : meth.locks = false) (out : Int64) (σ : JS) (x1 : Int32) (x2 : Int32) (ls : Array Slot) (hl : lv_has ls 3 [(0, .ref (ad 0)), (1, .int x1), (2, .int x2)]) (hw : jH D (xT ca) (xC ca ad σ) A s.heap s.heap [] s) (hf : mH_entry σ x1 x2 = some out) : W p l e (headSpec wsH_entry rmH_entry).room s m args below meth c s.heap [] 0 0 (MQ below (jSl out) args s 0 0 (fun _ => False)) (F0 m 0 ls []) := by
  have hx := S.1
  have hb := S.2.1
  unfold mH_entry at hf
  refine lv_aload_n (pc := 0) hx hb dH_entry_0 rfl (lv_at hl 0 rfl) ?_
  refine j_get (pc := 1) (v := .ref (ad 1)) S hw inH 0 0 0 xg_0 rfl (by decide) k_162 rfl dH_entry_1 ?_
  refine lv_iload_n (pc := 4) hx hb dH_entry_4 rfl (lv_at hl 1 rfl) ?_
  have hg := jbn_e hf; clear hf; obtain ⟨q1, h2, hf⟩ := hg
  refine j_cpi (pc := 5) (v := q1) (va_runV (As := [.int x1]) (rest := []) S (kJ_isKept l D ca ad _ σ x1 q1 h2) (cwV 1 S.2.2.2.2 (jgV k_239 k_240 k_241 k_2 k_242) rfl rfl rfl (by decide +kernel) ⟨Nat.le_of_ble_eq_true rfl, Nat.le_of_ble_eq_true rfl⟩) (j_preV (As := [.int x1]) hw xN_b (xN_to hN hw hA) rfl xg_1) rfl rfl hl.1 rfl (lv_room (Nat.le_of_ble_eq_true rfl)) dH_entry_5 ⟨Nat.le_of_ble_eq_true rfl, Nat.le_of_ble_eq_true rfl⟩) ?_
  refine lv_if_ne (pc := 8) (tgt := 15) hx hb dH_entry_8 (by decide) (fun hc => ?_) (fun hc => ?_)
  · replace hf := jif hf hc
    refine lv_iload_n (pc := 15) hx hb dH_entry_15 rfl (lv_at hl 2 rfl) ?_
    by_cases hs0 : x2 = (0 : Int32)
    · replace hf := jit hf hs0
      refine lv_lookup (pc := 16) (tgt := 44) (off := 28) hx hb dH_entry_16 (by decide) (by rw [hs0]; try rfl) (by decide) ?_
      refine lv_aload_n (pc := 44) hx hb dH_entry_44 rfl (lv_at hl 0 rfl) ?_
      refine j_get (pc := 45) (v := .ref (ad 1)) S hw inH 0 0 0 xg_0 rfl (by decide) k_162 rfl dH_entry_45 ?_
      refine j_get (pc := 48) (v := .ref (ad 6)) S hw inJ 1 1 0 xg_1 rfl (by decide) k_31 rfl dH_entry_48 ?_
      refine lv_iload_n (pc := 51) hx hb dH_entry_51 rfl (lv_at hl 1 rfl) ?_
      have hg := jrd_e hf; clear hf; obtain ⟨h4, v3, e5, hf⟩ := hg
      refine j_iald (pc := 52) S hw 6 0 xg_6 xt_6 h4 e5 dH_entry_52 ?_
      refine lv_i2l (pc := 53) (v := v3.toInt64) hx hb dH_entry_53 rfl ?_
      obtain rfl := jsm hf
      exact j_lpr (pc := 54) S hr hlk dH_entry_54
    · replace hf := jif hf hs0
      by_cases hs1 : x2 = (1 : Int32)
      · replace hf := jit hf hs1
        refine lv_lookup (pc := 16) (tgt := 55) (off := 39) hx hb dH_entry_16 (by decide) (by rw [hs1]; try rfl) (by decide) ?_
        refine lv_aload_n (pc := 55) hx hb dH_entry_55 rfl (lv_at hl 0 rfl) ?_
        refine j_get (pc := 56) (v := .ref (ad 1)) S hw inH 0 0 0 xg_0 rfl (by decide) k_162 rfl dH_entry_56 ?_
        refine j_get (pc := 59) (v := .ref (ad 7)) S hw inJ 1 1 1 xg_1 rfl (by decide) k_34 rfl dH_entry_59 ?_
        refine lv_iload_n (pc := 62) hx hb dH_entry_62 rfl (lv_at hl 1 rfl) ?_
        have hg := jrd_e hf; clear hf; obtain ⟨h7, v6, e8, hf⟩ := hg
        refine j_iald (pc := 63) S hw 7 1 xg_7 xt_7 h7 e8 dH_entry_63 ?_
        refine lv_i2l (pc := 64) (v := v6.toInt64) hx hb dH_entry_64 rfl ?_
        obtain rfl := jsm hf
        exact j_lpr (pc := 65) S hr hlk dH_entry_65
      · replace hf := jif hf hs1
        refine lv_lookup (pc := 16) (tgt := 66) (off := 50) hx hb dH_entry_16 (by decide) (by rw [lv_osw hs0 (by decide)]; rw [lv_osw hs1 (by decide)]; try rfl) (by decide) ?_
        refine lv_aload_n (pc := 66) hx hb dH_entry_66 rfl (lv_at hl 0 rfl) ?_
        refine j_get (pc := 67) (v := .ref (ad 1)) S hw inH 0 0 0 xg_0 rfl (by decide) k_162 rfl dH_entry_67 ?_
        refine j_get (pc := 70) (v := .ref (ad 6)) S hw inJ 1 1 0 xg_1 rfl (by decide) k_31 rfl dH_entry_70 ?_
        refine lv_iload_n (pc := 73) hx hb dH_entry_73 rfl (lv_at hl 1 rfl) ?_
        have hg := jrd_e hf; clear hf; obtain ⟨h10, v9, e11, hf⟩ := hg
        refine j_iald (pc := 74) S hw 6 0 xg_6 xt_6 h10 e11 dH_entry_74 ?_
        refine lv_iconst (pc := 75) (v := (1 : Int32)) hx hb dH_entry_75 (by decide) ?_
        refine lv_icmp_ne (pc := 76) (tgt := 88) hx hb dH_entry_76 (by decide) (fun hc => ?_) (fun hc => ?_)
        · replace hf := jif hf hc
          refine lv_ldc2 (pc := 88) (v := (1099511627776 : Int64)) hx hb S.2.2.2.1 (S.2.2.2.2 _ k_214) dH_entry_88 ?_
          obtain rfl := jsm hf
          exact j_lpr (pc := 91) S hr hlk dH_entry_91
        · replace hf := jit hf hc
          refine lv_aload_n (pc := 79) hx hb dH_entry_79 rfl (lv_at hl 0 rfl) ?_
          refine lv_iload_n (pc := 80) hx hb dH_entry_80 rfl (lv_at hl 1 rfl) ?_
          refine lv_iload_n (pc := 81) hx hb dH_entry_81 rfl (lv_at hl 2 rfl) ?_
          have hg := jbn_e hf; clear hf; obtain ⟨q12, h13, hf⟩ := hg
          refine j_cpl (pc := 82) (v := q12) (va_runV (As := [.int x1, .int x2]) (rest := []) S (kH_partOfChange l D ca ad _ σ x1 x2 q12 h13) (cwV 2 S.2.2.2.2 (jgV k_247 k_249 ks_8 k_1 k_250) rfl rfl rfl (by decide +kernel) ⟨Nat.le_of_ble_eq_true rfl, Nat.le_of_ble_eq_true rfl⟩) (j_preV (As := [.int x1, .int x2]) hw xN_b (xN_to hN hw hA) rfl xg_0) rfl rfl hl.1 rfl (lv_room (Nat.le_of_ble_eq_true rfl)) dH_entry_82 ⟨Nat.le_of_ble_eq_true rfl, Nat.le_of_ble_eq_true rfl⟩) ?_
          refine lv_goto (pc := 85) (tgt := 91) hx hb dH_entry_85 (by decide) ?_
          obtain rfl := jsm hf
          exact j_lpr (pc := 91) S hr hlk dH_entry_91
  · replace hf := jit hf hc
    refine lv_ldc2 (pc := 11) (v := (1099511627776 : Int64)) hx hb S.2.2.2.1 (S.2.2.2.2 _ k_214) dH_entry_11 ?_
    obtain rfl := jsm hf
    exact j_lpr (pc := 14) S hr hlk dH_entry_14
set_option maxHeartbeats 4000000 in
set_option maxRecDepth 100000 in
theorem kH_entry (l : Launch) (D : va_G) (ca : Nat → ClassId) (ad : Nat → Nat) (sz : Nat) (σ : JS) (x1 : Int32) (x2 : Int32) (out : Int64) (hf : mH_entry σ x1 x2 = some out) : Met l yH_entry wsH_entry rmH_entry (jPre D (xT ca) (xC ca ad σ) (xN (va_A (xC ca ad σ) sz)) sz [.ref (ad 0), .int x1, .int x2]) (jSl out) 0 0 (fun _ => False) := by
  refine Met.ofW (cc := cH_entry) (maxL := 3) (ret := some .long) (by decide) rfl ?_
  intro p e s m args below meth c s₁ B hml hv
  obtain ⟨rfl, hsz, hP, hK, hD0, hN⟩ := hv
  subst hsz
  have hl := lv_entry [.ref (ad 0), .int x1, .int x2] (n := 3) (Nat.le_of_ble_eq_true rfl)
  rw [lg_entry_eq]
  generalize (lg_sl [.ref (ad 0), .int x1, .int x2] ++ List.replicate (3 - (lg_sl [.ref (ad 0), .int x1, .int x2]).length) Slot.unset).toArray = ls at hl ⊢
  exact bH_entry (fun q h => Or.inr h) ⟨B.exec, B.bytes, hml, findClass_of_methodNamed B.named, fun w h => atoms_spec (ws := wsH_entry) B.pre w (List.mem_cons_of_mem _ h)⟩ hN B.returns B.notSynchronized out σ x1 x2 ls hl ⟨hP, hD0.self, va_S.rf, hK⟩ hf

def rmJ_endOfOldest : Room := { frames := 0, cells := 0, slots := 0, locals := 0 }
def mJ_endOfOldest (σ : JS)  : Option (Int32) :=
  some (((σ 100 1) + (1 : Int32)) * (8 : Int32))
set_option maxHeartbeats 4000000 in
set_option maxRecDepth 100000 in
theorem bJ_endOfOldest {p : Program} {l : Launch} {e : Env} {s : State} {m : MethodId} {args : Array Value} {below : List Frame} {meth : Method} {c : Code} {D : va_G} {ca : Nat → ClassId} {ad : Nat → Nat} {A : Nat → Prop} (hA : ∀ q, s.heap.size ≤ q → A q) (S : CallFix p m c cJ_endOfOldest 1 s args jall RJ) (hN : xN A s) (hr : meth.sig.returnType = some .int) (hlk : meth.locks = false) (out : Int32) (σ : JS)  (ls : Array Slot) (hl : lv_has ls 1 [(0, .ref (ad 1))]) (hw : jH D (xT ca) (xC ca ad σ) A s.heap s.heap [] s) (hf : mJ_endOfOldest σ  = some out) : W p l e (headSpec wsJ_endOfOldest rmJ_endOfOldest).room s m args below meth c s.heap [] 0 0 (MQ below (jSi out) args s 0 0 (fun _ => False)) (F0 m 0 ls []) := by
  have hx := S.1
  have hb := S.2.1
  unfold mJ_endOfOldest at hf
  refine lv_aload_n (pc := 0) hx hb dJ_endOfOldest_0 rfl (lv_at hl 0 rfl) ?_
  refine j_get (pc := 1) (v := .int (σ 100 1)) S hw inJ 1 1 10 xg_1 rfl (by decide) k_51 rfl dJ_endOfOldest_1 ?_
  refine lv_iconst (pc := 4) (v := (1 : Int32)) hx hb dJ_endOfOldest_4 (by decide) ?_
  refine lv_iadd (pc := 5) hx hb dJ_endOfOldest_5 ?_
  refine lv_bipush (pc := 6) (v := (8 : Int32)) hx hb dJ_endOfOldest_6 (by decide) ?_
  refine lv_imul (pc := 8) hx hb dJ_endOfOldest_8 ?_
  obtain rfl := jsm hf
  exact j_ipr (pc := 9) S hr hlk dJ_endOfOldest_9
set_option maxHeartbeats 4000000 in
set_option maxRecDepth 100000 in
theorem kJ_endOfOldest (l : Launch) (D : va_G) (ca : Nat → ClassId) (ad : Nat → Nat) (sz : Nat) (σ : JS)  (out : Int32) (hf : mJ_endOfOldest σ  = some out) : Met l yJ_endOfOldest wsJ_endOfOldest rmJ_endOfOldest (jPre D (xT ca) (xC ca ad σ) (xN (va_A (xC ca ad σ) sz)) sz [.ref (ad 1)]) (jSi out) 0 0 (fun _ => False) := by
  refine Met.ofW (cc := cJ_endOfOldest) (maxL := 1) (ret := some .int) (by decide) rfl ?_
  intro p e s m args below meth c s₁ B hml hv
  obtain ⟨rfl, hsz, hP, hK, hD0, hN⟩ := hv
  subst hsz
  have hl := lv_entry [.ref (ad 1)] (n := 1) (Nat.le_of_ble_eq_true rfl)
  rw [lg_entry_eq]
  generalize (lg_sl [.ref (ad 1)] ++ List.replicate (1 - (lg_sl [.ref (ad 1)]).length) Slot.unset).toArray = ls at hl ⊢
  exact bJ_endOfOldest (fun q h => Or.inr h) ⟨B.exec, B.bytes, hml, findClass_of_methodNamed B.named, fun w h => atoms_spec (ws := wsJ_endOfOldest) B.pre w (List.mem_cons_of_mem _ h)⟩ hN B.returns B.notSynchronized out σ  ls hl ⟨hP, hD0.self, va_S.rf, hK⟩ hf

def rmJ_canDropOldest : Room := { frames := 1, cells := 0, slots := 0, locals := 21 }
def mJ_canDropOldest_L2 (k : Int32 → Option (Int32)) (σ : JS) : Nat → Int32 → Option (Int32)
  | 0, _ => none
  | n + 1, x1 =>
    if (3 : Int32) ≤ x1 then
    (k x1)
    else
    (jbn (mJ_isCycleOpen σ x1) fun q1 =>
    if q1 = 0 then
    (mJ_canDropOldest_L2 k σ n (x1 + 1))
    else
    (jrd σ 12 4 x1 fun v3 =>
    jbn (mJ_endOfOldest σ ) fun q6 =>
    if q6 < v3 then
    (mJ_canDropOldest_L2 k σ n (x1 + 1))
    else
    (some (0 : Int32))))
def mJ_canDropOldest (σ : JS)  : Option (Int32) :=
  mJ_canDropOldest_L2 (fun z8 =>
  jbn (mJ_endOfOldest σ ) fun q9 =>
  if (σ 100 0) < q9 then
  (some (0 : Int32))
  else
  (some (1 : Int32))) σ 999 (0 : Int32)
set_option maxHeartbeats 4000000 in
set_option maxRecDepth 100000 in
theorem wmJ_canDropOldest_L2 {p : Program} {l : Launch} {e : Env} {s : State} {m : MethodId} {args : Array Value} {below : List Frame} {meth : Method} {c : Code} {D : va_G} {ca : Nat → ClassId} {ad : Nat → Nat} {A : Nat → Prop} (hA : ∀ q, s.heap.size ≤ q → A q) (S : CallFix p m c cJ_canDropOldest 2 s args jall RJ) (hN : xN A s) (hr : meth.sig.returnType = some .boolean) (hlk : meth.locks = false) (out : Int32) (k : Int32 → Option (Int32)) (σ : JS) (hk : ∀ (x1 : Int32) (ls : Array Slot) , lv_has ls 2 [(0, .ref (ad 1)), (1, .int x1)] → jH D (xT ca) (xC ca ad σ) A s.heap s.heap [] s → k x1 = some out → W p l e (headSpec wsJ_canDropOldest rmJ_canDropOldest).room s m args below meth c s.heap [] 0 0 (MQ below (jSi out) args s 0 0 (fun _ => False)) (F0 m 36 ls [])) : ∀ (n : Nat) (x1 : Int32) (ls : Array Slot) , lv_has ls 2 [(0, .ref (ad 1)), (1, .int x1)] → jH D (xT ca) (xC ca ad σ) A s.heap s.heap [] s → mJ_canDropOldest_L2 k σ n x1 = some out → W p l e (headSpec wsJ_canDropOldest rmJ_canDropOldest).room s m args below meth c s.heap [] 0 0 (MQ below (jSi out) args s 0 0 (fun _ => False)) (F0 m 2 ls []) := by
  have hx := S.1
  have hb := S.2.1
  intro n
  induction n with
  | zero => intro x1 ls hl hw hf; cases hf
  | succ n ih =>
    intro x1 ls hl hw hf
    rw [mJ_canDropOldest_L2] at hf
    refine lv_iload_n (pc := 2) hx hb dJ_canDropOldest_2 rfl (lv_at hl 1 rfl) ?_
    refine lv_iconst (pc := 3) (v := (3 : Int32)) hx hb dJ_canDropOldest_3 (by decide) ?_
    refine lv_icmp_ge (pc := 4) (tgt := 36) hx hb dJ_canDropOldest_4 (by decide) (fun hc => ?_) (fun hc => ?_)
    · replace hf := jit hf hc
      exact hk x1 _ (lv_sub hl [0, 1] rfl) hw hf
    · replace hf := jif hf hc
      refine lv_aload_n (pc := 7) hx hb dJ_canDropOldest_7 rfl (lv_at hl 0 rfl) ?_
      refine lv_iload_n (pc := 8) hx hb dJ_canDropOldest_8 rfl (lv_at hl 1 rfl) ?_
      have hg := jbn_e hf; clear hf; obtain ⟨q1, h2, hf⟩ := hg
      refine j_cpi (pc := 9) (v := q1) (va_runV (As := [.int x1]) (rest := []) S (kJ_isCycleOpen l D ca ad _ σ x1 q1 h2) (cwV 1 S.2.2.2.2 (jgV k_374 k_375 k_376 k_2 k_377) rfl rfl rfl (by decide +kernel) ⟨Nat.le_of_ble_eq_true rfl, Nat.le_of_ble_eq_true rfl⟩) (j_preV (As := [.int x1]) hw xN_b (xN_to hN hw hA) rfl xg_1) rfl rfl hl.1 rfl (lv_room (Nat.le_of_ble_eq_true rfl)) dJ_canDropOldest_9 ⟨Nat.le_of_ble_eq_true rfl, Nat.le_of_ble_eq_true rfl⟩) ?_
      refine lv_if_eq (pc := 12) (tgt := 30) hx hb dJ_canDropOldest_12 (by decide) (fun hc => ?_) (fun hc => ?_)
      · replace hf := jit hf hc
        refine lv_iinc (pc := 30) (v := (x1 + 1)) (k := 1) (lv' := [(1, .int (x1 + 1)), (0, .ref (ad 1))]) hx hb dJ_canDropOldest_30 hl rfl (j_inc _ (by decide)) (by decide) rfl (fun ls hl => ?_)
        refine lv_goto (pc := 33) (tgt := 2) hx hb dJ_canDropOldest_33 (by decide) ?_
        exact ih (x1 + 1) _ (lv_sub hl [1, 0] rfl) hw hf
      · replace hf := jif hf hc
        refine lv_aload_n (pc := 15) hx hb dJ_canDropOldest_15 rfl (lv_at hl 0 rfl) ?_
        refine j_get (pc := 16) (v := .ref (ad 12)) S hw inJ 1 1 6 xg_1 rfl (by decide) k_45 rfl dJ_canDropOldest_16 ?_
        refine lv_iload_n (pc := 19) hx hb dJ_canDropOldest_19 rfl (lv_at hl 1 rfl) ?_
        have hg := jrd_e hf; clear hf; obtain ⟨h4, v3, e5, hf⟩ := hg
        refine j_iald (pc := 20) S hw 12 6 xg_12 xt_12 h4 e5 dJ_canDropOldest_20 ?_
        refine lv_aload_n (pc := 21) hx hb dJ_canDropOldest_21 rfl (lv_at hl 0 rfl) ?_
        have hg := jbn_e hf; clear hf; obtain ⟨q6, h7, hf⟩ := hg
        refine j_cpi (pc := 22) (v := q6) (va_runV (As := []) (rest := [.int v3]) S (kJ_endOfOldest l D ca ad _ σ  q6 h7) (cwV 0 S.2.2.2.2 (jgV k_526 k_527 k_528 k_2 k_529) rfl rfl rfl (by decide +kernel) ⟨Nat.le_of_ble_eq_true rfl, Nat.le_of_ble_eq_true rfl⟩) (j_preV (As := []) hw xN_b (xN_to hN hw hA) rfl xg_1) rfl rfl hl.1 rfl (lv_room (Nat.le_of_ble_eq_true rfl)) dJ_canDropOldest_22 ⟨Nat.le_of_ble_eq_true rfl, Nat.le_of_ble_eq_true rfl⟩) ?_
        refine lv_icmp_gt (pc := 25) (tgt := 30) hx hb dJ_canDropOldest_25 (by decide) (fun hc => ?_) (fun hc => ?_)
        · replace hf := jit hf hc
          refine lv_iinc (pc := 30) (v := (x1 + 1)) (k := 1) (lv' := [(1, .int (x1 + 1)), (0, .ref (ad 1))]) hx hb dJ_canDropOldest_30 hl rfl (j_inc _ (by decide)) (by decide) rfl (fun ls hl => ?_)
          refine lv_goto (pc := 33) (tgt := 2) hx hb dJ_canDropOldest_33 (by decide) ?_
          exact ih (x1 + 1) _ (lv_sub hl [1, 0] rfl) hw hf
        · replace hf := jif hf hc
          refine lv_iconst (pc := 28) (v := (0 : Int32)) hx hb dJ_canDropOldest_28 (by decide) ?_
          obtain rfl := jsm hf
          exact j_zpr (pc := 29) S hr hlk (Or.inl rfl) dJ_canDropOldest_29
set_option maxHeartbeats 4000000 in
set_option maxRecDepth 100000 in
theorem bJ_canDropOldest {p : Program} {l : Launch} {e : Env} {s : State} {m : MethodId} {args : Array Value} {below : List Frame} {meth : Method} {c : Code} {D : va_G} {ca : Nat → ClassId} {ad : Nat → Nat} {A : Nat → Prop} (hA : ∀ q, s.heap.size ≤ q → A q) (S : CallFix p m c cJ_canDropOldest 2 s args jall RJ) (hN : xN A s) (hr : meth.sig.returnType = some .boolean) (hlk : meth.locks = false) (out : Int32) (σ : JS)  (ls : Array Slot) (hl : lv_has ls 2 [(0, .ref (ad 1))]) (hw : jH D (xT ca) (xC ca ad σ) A s.heap s.heap [] s) (hf : mJ_canDropOldest σ  = some out) : W p l e (headSpec wsJ_canDropOldest rmJ_canDropOldest).room s m args below meth c s.heap [] 0 0 (MQ below (jSi out) args s 0 0 (fun _ => False)) (F0 m 0 ls []) := by
  have hx := S.1
  have hb := S.2.1
  unfold mJ_canDropOldest at hf
  refine lv_iconst (pc := 0) (v := (0 : Int32)) hx hb dJ_canDropOldest_0 (by decide) ?_
  refine lv_istore_n (pc := 1) (lv' := [(1, .int (0 : Int32)), (0, .ref (ad 1))]) hx hb dJ_canDropOldest_1 rfl hl (by decide) rfl (fun ls hl => ?_)
  refine wmJ_canDropOldest_L2 hA S hN hr hlk out _ σ (fun z8 ls hl hw hf => ?_) 999 (0 : Int32) _ (lv_sub hl [1, 0] rfl) hw hf
  try dsimp only at hf
  refine lv_aload_n (pc := 36) hx hb dJ_canDropOldest_36 rfl (lv_at hl 0 rfl) ?_
  have hg := jbn_e hf; clear hf; obtain ⟨q9, h10, hf⟩ := hg
  refine j_cpi (pc := 37) (v := q9) (va_runV (As := []) (rest := []) S (kJ_endOfOldest l D ca ad _ σ  q9 h10) (cwV 0 S.2.2.2.2 (jgV k_526 k_527 k_528 k_2 k_529) rfl rfl rfl (by decide +kernel) ⟨Nat.le_of_ble_eq_true rfl, Nat.le_of_ble_eq_true rfl⟩) (j_preV (As := []) hw xN_b (xN_to hN hw hA) rfl xg_1) rfl rfl hl.1 rfl (lv_room (Nat.le_of_ble_eq_true rfl)) dJ_canDropOldest_37 ⟨Nat.le_of_ble_eq_true rfl, Nat.le_of_ble_eq_true rfl⟩) ?_
  refine lv_aload_n (pc := 40) hx hb dJ_canDropOldest_40 rfl (lv_at hl 0 rfl) ?_
  refine j_get (pc := 41) (v := .int (σ 100 0)) S hw inJ 1 1 9 xg_1 rfl (by decide) k_49 rfl dJ_canDropOldest_41 ?_
  refine lv_icmp_gt (pc := 44) (tgt := 51) hx hb dJ_canDropOldest_44 (by decide) (fun hc => ?_) (fun hc => ?_)
  · replace hf := jit hf hc
    refine lv_iconst (pc := 51) (v := (0 : Int32)) hx hb dJ_canDropOldest_51 (by decide) ?_
    obtain rfl := jsm hf
    exact j_zpr (pc := 52) S hr hlk (Or.inl rfl) dJ_canDropOldest_52
  · replace hf := jif hf hc
    refine lv_iconst (pc := 47) (v := (1 : Int32)) hx hb dJ_canDropOldest_47 (by decide) ?_
    refine lv_goto (pc := 48) (tgt := 52) hx hb dJ_canDropOldest_48 (by decide) ?_
    obtain rfl := jsm hf
    exact j_zpr (pc := 52) S hr hlk (Or.inr rfl) dJ_canDropOldest_52
set_option maxHeartbeats 4000000 in
set_option maxRecDepth 100000 in
theorem kJ_canDropOldest (l : Launch) (D : va_G) (ca : Nat → ClassId) (ad : Nat → Nat) (sz : Nat) (σ : JS)  (out : Int32) (hf : mJ_canDropOldest σ  = some out) : Met l yJ_canDropOldest wsJ_canDropOldest rmJ_canDropOldest (jPre D (xT ca) (xC ca ad σ) (xN (va_A (xC ca ad σ) sz)) sz [.ref (ad 1)]) (jSi out) 0 0 (fun _ => False) := by
  refine Met.ofW (cc := cJ_canDropOldest) (maxL := 2) (ret := some .boolean) (by decide) rfl ?_
  intro p e s m args below meth c s₁ B hml hv
  obtain ⟨rfl, hsz, hP, hK, hD0, hN⟩ := hv
  subst hsz
  have hl := lv_entry [.ref (ad 1)] (n := 2) (Nat.le_of_ble_eq_true rfl)
  rw [lg_entry_eq]
  generalize (lg_sl [.ref (ad 1)] ++ List.replicate (2 - (lg_sl [.ref (ad 1)]).length) Slot.unset).toArray = ls at hl ⊢
  exact bJ_canDropOldest (fun q h => Or.inr h) ⟨B.exec, B.bytes, hml, findClass_of_methodNamed B.named, fun w h => atoms_spec (ws := wsJ_canDropOldest) B.pre w (List.mem_cons_of_mem _ h)⟩ hN B.returns B.notSynchronized out σ  ls hl ⟨hP, hD0.self, va_S.rf, hK⟩ hf

def rmS_loseWaiting : Room := { frames := 0, cells := 0, slots := 0, locals := 0 }
def mS_loseWaiting (σ : JS)  : Option (Int32 × JS) :=
  jst (jw2 σ 100 2 (0 : Int32)) fun σ1 =>
  some ((σ 100 2), σ1)
set_option maxHeartbeats 4000000 in
set_option maxRecDepth 100000 in
theorem bS_loseWaiting {p : Program} {l : Launch} {e : Env} {s : State} {m : MethodId} {args : Array Value} {below : List Frame} {meth : Method} {c : Code} {D : va_G} {ca : Nat → ClassId} {ad : Nat → Nat} {A : Nat → Prop} (hA : ∀ q, s.heap.size ≤ q → A q) (S : CallFix p m c cS_loseWaiting 2 s args jall RS) (hN : xN A s) (hr : meth.sig.returnType = some .int) (hlk : meth.locks = false) (out : Int32 × JS) (σ : JS)  (ls : Array Slot) (hl : lv_has ls 2 [(0, .ref (ad 2))]) (hw : jH D (xT ca) (xC ca ad σ) A s.heap s.heap [] s) (hf : mS_loseWaiting σ  = some out) : W p l e (headSpec wsS_loseWaiting rmS_loseWaiting).room s m args below meth c s.heap [] 0 0 (MQ below (jQi D (xT ca) (xC ca ad) A out.1 out.2) args s 0 0 A) (F0 m 0 ls []) := by
  have hx := S.1
  have hb := S.2.1
  unfold mS_loseWaiting at hf
  refine lv_aload_n (pc := 0) hx hb dS_loseWaiting_0 rfl (lv_at hl 0 rfl) ?_
  refine j_get (pc := 1) (v := .int (σ 100 2)) S hw inS 2 2 4 xg_2 rfl (by decide) k_89 rfl dS_loseWaiting_1 ?_
  refine lv_istore_n (pc := 4) (lv' := [(1, .int (σ 100 2)), (0, .ref (ad 2))]) hx hb dS_loseWaiting_4 rfl hl (by decide) rfl (fun ls hl => ?_)
  refine lv_aload_n (pc := 5) hx hb dS_loseWaiting_5 rfl (lv_at hl 1 rfl) ?_
  refine lv_iconst (pc := 6) (v := (0 : Int32)) hx hb dS_loseWaiting_6 (by decide) ?_
  have hg := jst_e hf; clear hf; obtain ⟨σ1, e2, hf⟩ := hg
  refine j_put (pc := 7) (v := .int (0 : Int32)) (ws' := xC ca ad σ1) S hw inS tyS tyS_ok nmS 2 2 4 xg_2 rfl (by decide) k_89 rfl rfl rfl (Nat.le_of_ble_eq_true rfl) (by rw [e2]; exact xp_2) dS_loseWaiting_7 (fun H locs hw => ?_)
  refine lv_iload_n (pc := 10) hx hb dS_loseWaiting_10 rfl (lv_at hl 0 rfl) ?_
  obtain rfl := jsm hf
  exact j_iret (pc := 11) S hw hr hlk dS_loseWaiting_11
set_option maxHeartbeats 4000000 in
set_option maxRecDepth 100000 in
theorem kS_loseWaiting (l : Launch) (D : va_G) (ca : Nat → ClassId) (ad : Nat → Nat) (sz : Nat) (σ : JS)  (out : Int32 × JS) (hf : mS_loseWaiting σ  = some out) : Met l yS_loseWaiting wsS_loseWaiting rmS_loseWaiting (jPre D (xT ca) (xC ca ad σ) (xN (va_A (xC ca ad σ) sz)) sz [.ref (ad 2)]) (jQi D (xT ca) (xC ca ad) (va_A (xC ca ad σ) sz) out.1 out.2) 0 0 (va_A (xC ca ad σ) sz) := by
  refine Met.ofW (cc := cS_loseWaiting) (maxL := 2) (ret := some .int) (by decide) rfl ?_
  intro p e s m args below meth c s₁ B hml hv
  obtain ⟨rfl, hsz, hP, hK, hD0, hN⟩ := hv
  subst hsz
  have hl := lv_entry [.ref (ad 2)] (n := 2) (Nat.le_of_ble_eq_true rfl)
  rw [lg_entry_eq]
  generalize (lg_sl [.ref (ad 2)] ++ List.replicate (2 - (lg_sl [.ref (ad 2)]).length) Slot.unset).toArray = ls at hl ⊢
  exact bS_loseWaiting (fun q h => Or.inr h) ⟨B.exec, B.bytes, hml, findClass_of_methodNamed B.named, fun w h => atoms_spec (ws := wsS_loseWaiting) B.pre w (List.mem_cons_of_mem _ h)⟩ hN B.returns B.notSynchronized out σ  ls hl ⟨hP, hD0.self, va_S.rf, hK⟩ hf

def rmS_readDisk : Room := { frames := 1, cells := 0, slots := 0, locals := 20 }
def mS_readDisk (σ : JS)  : Option (JS) :=
  jcp σ 16 24 15 24 (0 : Int32) (0 : Int32) (24 : Int32) fun σ1 =>
  some σ1
set_option maxHeartbeats 4000000 in
set_option maxRecDepth 100000 in
theorem bS_readDisk {p : Program} {l : Launch} {e : Env} {s : State} {m : MethodId} {args : Array Value} {below : List Frame} {meth : Method} {c : Code} {D : va_G} {ca : Nat → ClassId} {ad : Nat → Nat} {A : Nat → Prop} (hA : ∀ q, s.heap.size ≤ q → A q) (S : CallFix p m c cS_readDisk 1 s args jall RS) (hN : xN A s) (hr : meth.sig.returnType = none) (hlk : meth.locks = false) (out : JS) (σ : JS)  (ls : Array Slot) (hl : lv_has ls 1 [(0, .ref (ad 2))]) (hw : jH D (xT ca) (xC ca ad σ) A s.heap s.heap [] s) (hf : mS_readDisk σ  = some out) : W p l e (headSpec wsS_readDisk rmS_readDisk).room s m args below meth c s.heap [] 0 0 (MQ below (jQv D (xT ca) (xC ca ad) A out) args s 0 0 A) (F0 m 0 ls []) := by
  have hx := S.1
  have hb := S.2.1
  unfold mS_readDisk at hf
  refine lv_aload_n (pc := 0) hx hb dS_readDisk_0 rfl (lv_at hl 0 rfl) ?_
  refine j_get (pc := 1) (v := .ref (ad 16)) S hw inS 2 2 1 xg_2 rfl (by decide) k_85 rfl dS_readDisk_1 ?_
  refine lv_iconst (pc := 4) (v := (0 : Int32)) hx hb dS_readDisk_4 (by decide) ?_
  refine lv_aload_n (pc := 5) hx hb dS_readDisk_5 rfl (lv_at hl 0 rfl) ?_
  refine j_get (pc := 6) (v := .ref (ad 15)) S hw inS 2 2 0 xg_2 rfl (by decide) k_83 rfl dS_readDisk_6 ?_
  refine lv_iconst (pc := 9) (v := (0 : Int32)) hx hb dS_readDisk_9 (by decide) ?_
  refine lv_bipush (pc := 10) (v := (24 : Int32)) hx hb dS_readDisk_10 (by decide) ?_
  have hg := jcp_e hf; clear hf; obtain ⟨h3, h4, h5, h6, h7, σ1, e2, hf⟩ := hg
  refine j_copyi (pc := 12) (rest := []) (ws' := xC ca ad σ1) S hw hl.1 k_414 k_416 k_415 k_14 16 15 10 9 xg_16 xg_15 xt_16 xt_15 h3 h4 h5 h6 h7 (by rw [e2]; exact xa_15) (Nat.le_of_ble_eq_true rfl) (Nat.le_of_ble_eq_true rfl) dS_readDisk_12 (fun H locs hw => ?_)
  obtain rfl := jsm hf
  exact j_vret (pc := 15) S hw hr hlk dS_readDisk_15
set_option maxHeartbeats 4000000 in
set_option maxRecDepth 100000 in
theorem kS_readDisk (l : Launch) (D : va_G) (ca : Nat → ClassId) (ad : Nat → Nat) (sz : Nat) (σ : JS)  (out : JS) (hf : mS_readDisk σ  = some out) : Met l yS_readDisk wsS_readDisk rmS_readDisk (jPre D (xT ca) (xC ca ad σ) (xN (va_A (xC ca ad σ) sz)) sz [.ref (ad 2)]) (jQv D (xT ca) (xC ca ad) (va_A (xC ca ad σ) sz) out) 0 0 (va_A (xC ca ad σ) sz) := by
  refine Met.ofW (cc := cS_readDisk) (maxL := 1) (ret := none) (by decide) rfl ?_
  intro p e s m args below meth c s₁ B hml hv
  obtain ⟨rfl, hsz, hP, hK, hD0, hN⟩ := hv
  subst hsz
  have hl := lv_entry [.ref (ad 2)] (n := 1) (Nat.le_of_ble_eq_true rfl)
  rw [lg_entry_eq]
  generalize (lg_sl [.ref (ad 2)] ++ List.replicate (1 - (lg_sl [.ref (ad 2)]).length) Slot.unset).toArray = ls at hl ⊢
  exact bS_readDisk (fun q h => Or.inr h) ⟨B.exec, B.bytes, hml, findClass_of_methodNamed B.named, fun w h => atoms_spec (ws := wsS_readDisk) B.pre w (List.mem_cons_of_mem _ h)⟩ hN B.returns B.notSynchronized out σ  ls hl ⟨hP, hD0.self, va_S.rf, hK⟩ hf

def rmS_writeDisk : Room := { frames := 1, cells := 0, slots := 0, locals := 20 }
def mS_writeDisk (σ : JS)  : Option (JS) :=
  jcp σ 15 24 16 24 (0 : Int32) (0 : Int32) (24 : Int32) fun σ1 =>
  some σ1
set_option maxHeartbeats 4000000 in
set_option maxRecDepth 100000 in
theorem bS_writeDisk {p : Program} {l : Launch} {e : Env} {s : State} {m : MethodId} {args : Array Value} {below : List Frame} {meth : Method} {c : Code} {D : va_G} {ca : Nat → ClassId} {ad : Nat → Nat} {A : Nat → Prop} (hA : ∀ q, s.heap.size ≤ q → A q) (S : CallFix p m c cS_writeDisk 1 s args jall RS) (hN : xN A s) (hr : meth.sig.returnType = none) (hlk : meth.locks = false) (out : JS) (σ : JS)  (ls : Array Slot) (hl : lv_has ls 1 [(0, .ref (ad 2))]) (hw : jH D (xT ca) (xC ca ad σ) A s.heap s.heap [] s) (hf : mS_writeDisk σ  = some out) : W p l e (headSpec wsS_writeDisk rmS_writeDisk).room s m args below meth c s.heap [] 0 0 (MQ below (jQv D (xT ca) (xC ca ad) A out) args s 0 0 A) (F0 m 0 ls []) := by
  have hx := S.1
  have hb := S.2.1
  unfold mS_writeDisk at hf
  refine lv_aload_n (pc := 0) hx hb dS_writeDisk_0 rfl (lv_at hl 0 rfl) ?_
  refine j_get (pc := 1) (v := .ref (ad 15)) S hw inS 2 2 0 xg_2 rfl (by decide) k_83 rfl dS_writeDisk_1 ?_
  refine lv_iconst (pc := 4) (v := (0 : Int32)) hx hb dS_writeDisk_4 (by decide) ?_
  refine lv_aload_n (pc := 5) hx hb dS_writeDisk_5 rfl (lv_at hl 0 rfl) ?_
  refine j_get (pc := 6) (v := .ref (ad 16)) S hw inS 2 2 1 xg_2 rfl (by decide) k_85 rfl dS_writeDisk_6 ?_
  refine lv_iconst (pc := 9) (v := (0 : Int32)) hx hb dS_writeDisk_9 (by decide) ?_
  refine lv_bipush (pc := 10) (v := (24 : Int32)) hx hb dS_writeDisk_10 (by decide) ?_
  have hg := jcp_e hf; clear hf; obtain ⟨h3, h4, h5, h6, h7, σ1, e2, hf⟩ := hg
  refine j_copyi (pc := 12) (rest := []) (ws' := xC ca ad σ1) S hw hl.1 k_414 k_416 k_415 k_14 15 16 9 10 xg_15 xg_16 xt_15 xt_16 h3 h4 h5 h6 h7 (by rw [e2]; exact xa_16) (Nat.le_of_ble_eq_true rfl) (Nat.le_of_ble_eq_true rfl) dS_writeDisk_12 (fun H locs hw => ?_)
  obtain rfl := jsm hf
  exact j_vret (pc := 15) S hw hr hlk dS_writeDisk_15
set_option maxHeartbeats 4000000 in
set_option maxRecDepth 100000 in
theorem kS_writeDisk (l : Launch) (D : va_G) (ca : Nat → ClassId) (ad : Nat → Nat) (sz : Nat) (σ : JS)  (out : JS) (hf : mS_writeDisk σ  = some out) : Met l yS_writeDisk wsS_writeDisk rmS_writeDisk (jPre D (xT ca) (xC ca ad σ) (xN (va_A (xC ca ad σ) sz)) sz [.ref (ad 2)]) (jQv D (xT ca) (xC ca ad) (va_A (xC ca ad σ) sz) out) 0 0 (va_A (xC ca ad σ) sz) := by
  refine Met.ofW (cc := cS_writeDisk) (maxL := 1) (ret := none) (by decide) rfl ?_
  intro p e s m args below meth c s₁ B hml hv
  obtain ⟨rfl, hsz, hP, hK, hD0, hN⟩ := hv
  subst hsz
  have hl := lv_entry [.ref (ad 2)] (n := 1) (Nat.le_of_ble_eq_true rfl)
  rw [lg_entry_eq]
  generalize (lg_sl [.ref (ad 2)] ++ List.replicate (1 - (lg_sl [.ref (ad 2)]).length) Slot.unset).toArray = ls at hl ⊢
  exact bS_writeDisk (fun q h => Or.inr h) ⟨B.exec, B.bytes, hml, findClass_of_methodNamed B.named, fun w h => atoms_spec (ws := wsS_writeDisk) B.pre w (List.mem_cons_of_mem _ h)⟩ hN B.returns B.notSynchronized out σ  ls hl ⟨hP, hD0.self, va_S.rf, hK⟩ hf

def rmL_isLetter : Room := { frames := 0, cells := 0, slots := 0, locals := 0 }
def mL_isLetter (σ : JS) (x1 : Int32) : Option (Int32) :=
  if x1 < 0 then
  (some (0 : Int32))
  else
  (if (σ 100 3) ≤ x1 then
  (some (0 : Int32))
  else
  (some (1 : Int32)))
set_option maxHeartbeats 4000000 in
set_option maxRecDepth 100000 in
theorem bL_isLetter {p : Program} {l : Launch} {e : Env} {s : State} {m : MethodId} {args : Array Value} {below : List Frame} {meth : Method} {c : Code} {D : va_G} {ca : Nat → ClassId} {ad : Nat → Nat} {A : Nat → Prop} (hA : ∀ q, s.heap.size ≤ q → A q) (S : CallFix p m c cL_isLetter 2 s args jall RL) (hN : xN A s) (hr : meth.sig.returnType = some .boolean) (hlk : meth.locks = false) (out : Int32) (σ : JS) (x1 : Int32) (ls : Array Slot) (hl : lv_has ls 2 [(0, .ref (ad 4)), (1, .int x1)]) (hw : jH D (xT ca) (xC ca ad σ) A s.heap s.heap [] s) (hf : mL_isLetter σ x1 = some out) : W p l e (headSpec wsL_isLetter rmL_isLetter).room s m args below meth c s.heap [] 0 0 (MQ below (jSi out) args s 0 0 (fun _ => False)) (F0 m 0 ls []) := by
  have hx := S.1
  have hb := S.2.1
  unfold mL_isLetter at hf
  refine lv_iload_n (pc := 0) hx hb dL_isLetter_0 rfl (lv_at hl 1 rfl) ?_
  refine lv_if_lt (pc := 1) (tgt := 16) hx hb dL_isLetter_1 (by decide) (fun hc => ?_) (fun hc => ?_)
  · replace hf := jit hf hc
    refine lv_iconst (pc := 16) (v := (0 : Int32)) hx hb dL_isLetter_16 (by decide) ?_
    obtain rfl := jsm hf
    exact j_zpr (pc := 17) S hr hlk (Or.inl rfl) dL_isLetter_17
  · replace hf := jif hf hc
    refine lv_iload_n (pc := 4) hx hb dL_isLetter_4 rfl (lv_at hl 1 rfl) ?_
    refine lv_aload_n (pc := 5) hx hb dL_isLetter_5 rfl (lv_at hl 0 rfl) ?_
    refine j_get (pc := 6) (v := .int (σ 100 3)) S hw inL 4 4 1 xg_4 rfl (by decide) k_134 rfl dL_isLetter_6 ?_
    refine lv_icmp_ge (pc := 9) (tgt := 16) hx hb dL_isLetter_9 (by decide) (fun hc => ?_) (fun hc => ?_)
    · replace hf := jit hf hc
      refine lv_iconst (pc := 16) (v := (0 : Int32)) hx hb dL_isLetter_16 (by decide) ?_
      obtain rfl := jsm hf
      exact j_zpr (pc := 17) S hr hlk (Or.inl rfl) dL_isLetter_17
    · replace hf := jif hf hc
      refine lv_iconst (pc := 12) (v := (1 : Int32)) hx hb dL_isLetter_12 (by decide) ?_
      refine lv_goto (pc := 13) (tgt := 17) hx hb dL_isLetter_13 (by decide) ?_
      obtain rfl := jsm hf
      exact j_zpr (pc := 17) S hr hlk (Or.inr rfl) dL_isLetter_17
set_option maxHeartbeats 4000000 in
set_option maxRecDepth 100000 in
theorem kL_isLetter (l : Launch) (D : va_G) (ca : Nat → ClassId) (ad : Nat → Nat) (sz : Nat) (σ : JS) (x1 : Int32) (out : Int32) (hf : mL_isLetter σ x1 = some out) : Met l yL_isLetter wsL_isLetter rmL_isLetter (jPre D (xT ca) (xC ca ad σ) (xN (va_A (xC ca ad σ) sz)) sz [.ref (ad 4), .int x1]) (jSi out) 0 0 (fun _ => False) := by
  refine Met.ofW (cc := cL_isLetter) (maxL := 2) (ret := some .boolean) (by decide) rfl ?_
  intro p e s m args below meth c s₁ B hml hv
  obtain ⟨rfl, hsz, hP, hK, hD0, hN⟩ := hv
  subst hsz
  have hl := lv_entry [.ref (ad 4), .int x1] (n := 2) (Nat.le_of_ble_eq_true rfl)
  rw [lg_entry_eq]
  generalize (lg_sl [.ref (ad 4), .int x1] ++ List.replicate (2 - (lg_sl [.ref (ad 4), .int x1]).length) Slot.unset).toArray = ls at hl ⊢
  exact bL_isLetter (fun q h => Or.inr h) ⟨B.exec, B.bytes, hml, findClass_of_methodNamed B.named, fun w h => atoms_spec (ws := wsL_isLetter) B.pre w (List.mem_cons_of_mem _ h)⟩ hN B.returns B.notSynchronized out σ x1 ls hl ⟨hP, hD0.self, va_S.rf, hK⟩ hf

def rmL_take : Room := { frames := 1, cells := 0, slots := 0, locals := 20 }
def mL_take (σ : JS) (x1 : Int32) : Option (Int32 × JS) :=
  jrd σ 23 16 x1 fun v1 =>
  jst (jw2 σ 100 3 ((σ 100 3) - (1 : Int32))) fun σ4 =>
  jcp σ4 23 16 23 16 (x1 + (1 : Int32)) x1 ((σ4 100 3) - x1) fun σ6 =>
  some (v1, σ6)
set_option maxHeartbeats 4000000 in
set_option maxRecDepth 100000 in
theorem bL_take {p : Program} {l : Launch} {e : Env} {s : State} {m : MethodId} {args : Array Value} {below : List Frame} {meth : Method} {c : Code} {D : va_G} {ca : Nat → ClassId} {ad : Nat → Nat} {A : Nat → Prop} (hA : ∀ q, s.heap.size ≤ q → A q) (S : CallFix p m c cL_take 3 s args jall RL) (hN : xN A s) (hr : meth.sig.returnType = some .int) (hlk : meth.locks = false) (out : Int32 × JS) (σ : JS) (x1 : Int32) (ls : Array Slot) (hl : lv_has ls 3 [(0, .ref (ad 4)), (1, .int x1)]) (hw : jH D (xT ca) (xC ca ad σ) A s.heap s.heap [] s) (hf : mL_take σ x1 = some out) : W p l e (headSpec wsL_take rmL_take).room s m args below meth c s.heap [] 0 0 (MQ below (jQi D (xT ca) (xC ca ad) A out.1 out.2) args s 0 0 A) (F0 m 0 ls []) := by
  have hx := S.1
  have hb := S.2.1
  unfold mL_take at hf
  refine lv_aload_n (pc := 0) hx hb dL_take_0 rfl (lv_at hl 0 rfl) ?_
  refine j_get (pc := 1) (v := .ref (ad 23)) S hw inL 4 4 0 xg_4 rfl (by decide) k_132 rfl dL_take_1 ?_
  refine lv_iload_n (pc := 4) hx hb dL_take_4 rfl (lv_at hl 1 rfl) ?_
  have hg := jrd_e hf; clear hf; obtain ⟨h2, v1, e3, hf⟩ := hg
  refine j_iald (pc := 5) S hw 23 17 xg_23 xt_23 h2 e3 dL_take_5 ?_
  refine lv_istore_n (pc := 6) (lv' := [(2, .int v1), (0, .ref (ad 4)), (1, .int x1)]) hx hb dL_take_6 rfl hl (by decide) rfl (fun ls hl => ?_)
  refine lv_aload_n (pc := 7) hx hb dL_take_7 rfl (lv_at hl 1 rfl) ?_
  refine lv_dup (pc := 8) hx hb dL_take_8 rfl ?_
  refine j_get (pc := 9) (v := .int (σ 100 3)) S hw inL 4 4 1 xg_4 rfl (by decide) k_134 rfl dL_take_9 ?_
  refine lv_iconst (pc := 12) (v := (1 : Int32)) hx hb dL_take_12 (by decide) ?_
  refine lv_isub (pc := 13) hx hb dL_take_13 ?_
  have hg := jst_e hf; clear hf; obtain ⟨σ4, e5, hf⟩ := hg
  refine j_put (pc := 14) (v := .int ((σ 100 3) - (1 : Int32))) (ws' := xC ca ad σ4) S hw inL tyL tyL_ok nmL 4 4 1 xg_4 rfl (by decide) k_134 rfl rfl rfl (Nat.le_of_ble_eq_true rfl) (by rw [e5]; exact xp_3) dL_take_14 (fun H locs hw => ?_)
  refine lv_aload_n (pc := 17) hx hb dL_take_17 rfl (lv_at hl 1 rfl) ?_
  refine j_get (pc := 18) (v := .ref (ad 23)) S hw inL 4 4 0 xg_4 rfl (by decide) k_132 rfl dL_take_18 ?_
  refine lv_iload_n (pc := 21) hx hb dL_take_21 rfl (lv_at hl 2 rfl) ?_
  refine lv_iconst (pc := 22) (v := (1 : Int32)) hx hb dL_take_22 (by decide) ?_
  refine lv_iadd (pc := 23) hx hb dL_take_23 ?_
  refine lv_aload_n (pc := 24) hx hb dL_take_24 rfl (lv_at hl 1 rfl) ?_
  refine j_get (pc := 25) (v := .ref (ad 23)) S hw inL 4 4 0 xg_4 rfl (by decide) k_132 rfl dL_take_25 ?_
  refine lv_iload_n (pc := 28) hx hb dL_take_28 rfl (lv_at hl 2 rfl) ?_
  refine lv_aload_n (pc := 29) hx hb dL_take_29 rfl (lv_at hl 1 rfl) ?_
  refine j_get (pc := 30) (v := .int (σ4 100 3)) S hw inL 4 4 1 xg_4 rfl (by decide) k_134 rfl dL_take_30 ?_
  refine lv_iload_n (pc := 33) hx hb dL_take_33 rfl (lv_at hl 2 rfl) ?_
  refine lv_isub (pc := 34) hx hb dL_take_34 ?_
  have hg := jcp_e hf; clear hf; obtain ⟨h8, h9, h10, h11, h12, σ6, e7, hf⟩ := hg
  refine j_copyi (pc := 35) (rest := []) (ws' := xC ca ad σ6) S hw hl.1 k_574 k_416 k_415 k_14 23 23 17 17 xg_23 xg_23 xt_23 xt_23 h8 h9 h10 h11 h12 (by rw [e7]; exact xa_23) (Nat.le_of_ble_eq_true rfl) (Nat.le_of_ble_eq_true rfl) dL_take_35 (fun H locs hw => ?_)
  refine lv_iload_n (pc := 38) hx hb dL_take_38 rfl (lv_at hl 0 rfl) ?_
  obtain rfl := jsm hf
  exact j_iret (pc := 39) S hw hr hlk dL_take_39
set_option maxHeartbeats 4000000 in
set_option maxRecDepth 100000 in
theorem kL_take (l : Launch) (D : va_G) (ca : Nat → ClassId) (ad : Nat → Nat) (sz : Nat) (σ : JS) (x1 : Int32) (out : Int32 × JS) (hf : mL_take σ x1 = some out) : Met l yL_take wsL_take rmL_take (jPre D (xT ca) (xC ca ad σ) (xN (va_A (xC ca ad σ) sz)) sz [.ref (ad 4), .int x1]) (jQi D (xT ca) (xC ca ad) (va_A (xC ca ad σ) sz) out.1 out.2) 0 0 (va_A (xC ca ad σ) sz) := by
  refine Met.ofW (cc := cL_take) (maxL := 3) (ret := some .int) (by decide) rfl ?_
  intro p e s m args below meth c s₁ B hml hv
  obtain ⟨rfl, hsz, hP, hK, hD0, hN⟩ := hv
  subst hsz
  have hl := lv_entry [.ref (ad 4), .int x1] (n := 3) (Nat.le_of_ble_eq_true rfl)
  rw [lg_entry_eq]
  generalize (lg_sl [.ref (ad 4), .int x1] ++ List.replicate (3 - (lg_sl [.ref (ad 4), .int x1]).length) Slot.unset).toArray = ls at hl ⊢
  exact bL_take (fun q h => Or.inr h) ⟨B.exec, B.bytes, hml, findClass_of_methodNamed B.named, fun w h => atoms_spec (ws := wsL_take) B.pre w (List.mem_cons_of_mem _ h)⟩ hN B.returns B.notSynchronized out σ x1 ls hl ⟨hP, hD0.self, va_S.rf, hK⟩ hf

def rmR_receive : Room := { frames := 0, cells := 0, slots := 0, locals := 0 }
def mR_receive_L15  : Nat → JS → Option (JS)
  | 0, _ => none
  | n + 1, σ =>
    if (120 : Int32) ≤ (σ 100 4) then
    (some σ)
    else
    (jrd σ 25 121 ((σ 100 4) + (1 : Int32)) fun v4 =>
    if v4 = 0 then
    (some σ)
    else
    (jst (jw2 σ 100 4 ((σ 100 4) + (1 : Int32))) fun σ7 =>
    jrd σ7 6 121 (σ7 100 4) fun v9 =>
    if v9 = (1 : Int32) then
    (jrd σ7 8 121 (σ7 100 4) fun v12 =>
    jrd σ7 10 121 (σ7 100 4) fun v15 =>
    jwr σ7 24 24 v12 v15 fun σ18 =>
    mR_receive_L15  n σ18)
    else
    (mR_receive_L15  n σ7)))
def mR_receive (σ : JS) (x1 : Int32) : Option (JS) :=
  if (σ 100 5) = 0 then
  (jwr σ 25 121 x1 (1 : Int32) fun σ1 =>
  mR_receive_L15  999 σ1)
  else
  (some σ)
set_option maxHeartbeats 4000000 in
set_option maxRecDepth 100000 in
theorem wmR_receive_L15g {p : Program} {l : Launch} {e : Env} {s : State} {m : MethodId} {args : Array Value} {below : List Frame} {meth : Method} {c : Code} {D : va_G} {ca : Nat → ClassId} {ad : Nat → Nat} {A : Nat → Prop} (hA : ∀ q, s.heap.size ≤ q → A q) (S : CallFix p m c cR_receive 3 s args jall RR) (hN : xN A s) (hr : meth.sig.returnType = none) (hlk : meth.locks = false) (out : JS)  : ∀ (n : Nat) (σ : JS) (ls : Array Slot) (H : Heap) (locs : List Loc), lv_has ls 3 [(0, .ref (ad 5)), (2, .ref (ad 1))] → jH D (xT ca) (xC ca ad σ) A s.heap H locs s → mR_receive_L15  n σ = some out → W p l e (headSpec wsR_receive rmR_receive).room s m args below meth c H locs 0 0 (MQ below (jQv D (xT ca) (xC ca ad) A out) args s 0 0 A) (F0 m 15 ls []) := by
  have hx := S.1
  have hb := S.2.1
  intro n
  induction n with
  | zero => intro σ ls H locs hl hw hf; cases hf
  | succ n ih =>
    intro σ ls H locs hl hw hf
    rw [mR_receive_L15] at hf
    refine lv_aload_n (pc := 15) hx hb dR_receive_15 rfl (lv_at hl 0 rfl) ?_
    refine j_get (pc := 16) (v := .int (σ 100 4)) S hw inR 5 5 2 xg_5 rfl (by decide) k_150 rfl dR_receive_16 ?_
    refine lv_bipush (pc := 19) (v := (120 : Int32)) hx hb dR_receive_19 (by decide) ?_
    refine lv_icmp_ge (pc := 21) (tgt := 87) hx hb dR_receive_21 (by decide) (fun hc => ?_) (fun hc => ?_)
    · replace hf := jit hf hc
      obtain rfl := jsm hf
      exact j_vret (pc := 87) S hw hr hlk dR_receive_87
    · replace hf := jif hf hc
      refine lv_aload_n (pc := 24) hx hb dR_receive_24 rfl (lv_at hl 0 rfl) ?_
      refine j_get (pc := 25) (v := .ref (ad 25)) S hw inR 5 5 1 xg_5 rfl (by decide) k_149 rfl dR_receive_25 ?_
      refine lv_aload_n (pc := 28) hx hb dR_receive_28 rfl (lv_at hl 0 rfl) ?_
      refine j_get (pc := 29) (v := .int (σ 100 4)) S hw inR 5 5 2 xg_5 rfl (by decide) k_150 rfl dR_receive_29 ?_
      refine lv_iconst (pc := 32) (v := (1 : Int32)) hx hb dR_receive_32 (by decide) ?_
      refine lv_iadd (pc := 33) hx hb dR_receive_33 ?_
      have hg := jrd_e hf; clear hf; obtain ⟨h5, v4, e6, hf⟩ := hg
      refine j_zald (pc := 34) S hw 25 19 xg_25 xt_25 h5 e6 dR_receive_34 ?_
      refine lv_if_eq (pc := 35) (tgt := 87) hx hb dR_receive_35 (by decide) (fun hc => ?_) (fun hc => ?_)
      · replace hf := jit hf hc
        obtain rfl := jsm hf
        exact j_vret (pc := 87) S hw hr hlk dR_receive_87
      · replace hf := jif hf hc
        refine lv_aload_n (pc := 38) hx hb dR_receive_38 rfl (lv_at hl 0 rfl) ?_
        refine lv_dup (pc := 39) hx hb dR_receive_39 rfl ?_
        refine j_get (pc := 40) (v := .int (σ 100 4)) S hw inR 5 5 2 xg_5 rfl (by decide) k_150 rfl dR_receive_40 ?_
        refine lv_iconst (pc := 43) (v := (1 : Int32)) hx hb dR_receive_43 (by decide) ?_
        refine lv_iadd (pc := 44) hx hb dR_receive_44 ?_
        have hg := jst_e hf; clear hf; obtain ⟨σ7, e8, hf⟩ := hg
        refine j_put (pc := 45) (v := .int ((σ 100 4) + (1 : Int32))) (ws' := xC ca ad σ7) S hw inR tyR tyR_ok nmR 5 5 2 xg_5 rfl (by decide) k_150 rfl rfl rfl (Nat.le_of_ble_eq_true rfl) (by rw [e8]; exact xp_4) dR_receive_45 (fun H locs hw => ?_)
        refine lv_aload_n (pc := 48) hx hb dR_receive_48 rfl (lv_at hl 1 rfl) ?_
        refine j_get (pc := 49) (v := .ref (ad 6)) S hw inJ 1 1 0 xg_1 rfl (by decide) k_30 rfl dR_receive_49 ?_
        refine lv_aload_n (pc := 52) hx hb dR_receive_52 rfl (lv_at hl 0 rfl) ?_
        refine j_get (pc := 53) (v := .int (σ7 100 4)) S hw inR 5 5 2 xg_5 rfl (by decide) k_150 rfl dR_receive_53 ?_
        have hg := jrd_e hf; clear hf; obtain ⟨h10, v9, e11, hf⟩ := hg
        refine j_iald (pc := 56) S hw 6 0 xg_6 xt_6 h10 e11 dR_receive_56 ?_
        refine lv_iconst (pc := 57) (v := (1 : Int32)) hx hb dR_receive_57 (by decide) ?_
        refine lv_icmp_ne (pc := 58) (tgt := 15) hx hb dR_receive_58 (by decide) (fun hc => ?_) (fun hc => ?_)
        · replace hf := jif hf hc
          exact ih σ7 _ _ _ (lv_sub hl [0, 1] rfl) hw hf
        · replace hf := jit hf hc
          refine lv_aload_n (pc := 61) hx hb dR_receive_61 rfl (lv_at hl 0 rfl) ?_
          refine j_get (pc := 62) (v := .ref (ad 24)) S hw inR 5 5 0 xg_5 rfl (by decide) k_147 rfl dR_receive_62 ?_
          refine lv_aload_n (pc := 65) hx hb dR_receive_65 rfl (lv_at hl 1 rfl) ?_
          refine j_get (pc := 66) (v := .ref (ad 8)) S hw inJ 1 1 2 xg_1 rfl (by decide) k_36 rfl dR_receive_66 ?_
          refine lv_aload_n (pc := 69) hx hb dR_receive_69 rfl (lv_at hl 0 rfl) ?_
          refine j_get (pc := 70) (v := .int (σ7 100 4)) S hw inR 5 5 2 xg_5 rfl (by decide) k_150 rfl dR_receive_70 ?_
          have hg := jrd_e hf; clear hf; obtain ⟨h13, v12, e14, hf⟩ := hg
          refine j_iald (pc := 73) S hw 8 2 xg_8 xt_8 h13 e14 dR_receive_73 ?_
          refine lv_aload_n (pc := 74) hx hb dR_receive_74 rfl (lv_at hl 1 rfl) ?_
          refine j_get (pc := 75) (v := .ref (ad 10)) S hw inJ 1 1 4 xg_1 rfl (by decide) k_42 rfl dR_receive_75 ?_
          refine lv_aload_n (pc := 78) hx hb dR_receive_78 rfl (lv_at hl 0 rfl) ?_
          refine j_get (pc := 79) (v := .int (σ7 100 4)) S hw inR 5 5 2 xg_5 rfl (by decide) k_150 rfl dR_receive_79 ?_
          have hg := jrd_e hf; clear hf; obtain ⟨h16, v15, e17, hf⟩ := hg
          refine j_iald (pc := 82) S hw 10 4 xg_10 xt_10 h16 e17 dR_receive_82 ?_
          have hg := jwr_e hf; clear hf; obtain ⟨h19, σ18, e20, hf⟩ := hg
          refine j_iast (pc := 83) (ws' := xC ca ad σ18) S hw 24 18 xg_24 xt_24 h19 (by rw [e20]; exact xs_24) dR_receive_83 (fun H locs hw => ?_)
          refine lv_goto (pc := 84) (tgt := 15) hx hb dR_receive_84 (by decide) ?_
          exact ih σ18 _ _ _ (lv_sub hl [0, 1] rfl) hw hf
set_option maxHeartbeats 4000000 in
set_option maxRecDepth 100000 in
theorem bR_receive {p : Program} {l : Launch} {e : Env} {s : State} {m : MethodId} {args : Array Value} {below : List Frame} {meth : Method} {c : Code} {D : va_G} {ca : Nat → ClassId} {ad : Nat → Nat} {A : Nat → Prop} (hA : ∀ q, s.heap.size ≤ q → A q) (S : CallFix p m c cR_receive 3 s args jall RR) (hN : xN A s) (hr : meth.sig.returnType = none) (hlk : meth.locks = false) (out : JS) (σ : JS) (x1 : Int32) (ls : Array Slot) (hl : lv_has ls 3 [(0, .ref (ad 5)), (1, .int x1), (2, .ref (ad 1))]) (hw : jH D (xT ca) (xC ca ad σ) A s.heap s.heap [] s) (hf : mR_receive σ x1 = some out) : W p l e (headSpec wsR_receive rmR_receive).room s m args below meth c s.heap [] 0 0 (MQ below (jQv D (xT ca) (xC ca ad) A out) args s 0 0 A) (F0 m 0 ls []) := by
  have hx := S.1
  have hb := S.2.1
  unfold mR_receive at hf
  refine lv_aload_n (pc := 0) hx hb dR_receive_0 rfl (lv_at hl 0 rfl) ?_
  refine j_get (pc := 1) (v := .int (σ 100 5)) S hw inR 5 5 3 xg_5 rfl (by decide) k_152 rfl dR_receive_1 ?_
  refine lv_if_eq (pc := 4) (tgt := 8) hx hb dR_receive_4 (by decide) (fun hc => ?_) (fun hc => ?_)
  · replace hf := jit hf hc
    refine lv_aload_n (pc := 8) hx hb dR_receive_8 rfl (lv_at hl 0 rfl) ?_
    refine j_get (pc := 9) (v := .ref (ad 25)) S hw inR 5 5 1 xg_5 rfl (by decide) k_149 rfl dR_receive_9 ?_
    refine lv_iload_n (pc := 12) hx hb dR_receive_12 rfl (lv_at hl 1 rfl) ?_
    refine lv_iconst (pc := 13) (v := (1 : Int32)) hx hb dR_receive_13 (by decide) ?_
    have hg := jwr_e hf; clear hf; obtain ⟨h2, σ1, e3, hf⟩ := hg
    refine j_zast (pc := 14) (ws' := xC ca ad σ1) S hw 25 19 xg_25 xt_25 h2 rfl (by rw [e3]; exact xs_25) dR_receive_14 (fun H locs hw => ?_)
    exact wmR_receive_L15g hA S hN hr hlk out  999 σ1 _ _ _ (lv_sub hl [0, 2] rfl) hw hf
  · replace hf := jif hf hc
    obtain rfl := jsm hf
    exact j_vret (pc := 7) S hw hr hlk dR_receive_7
set_option maxHeartbeats 4000000 in
set_option maxRecDepth 100000 in
theorem kR_receive (l : Launch) (D : va_G) (ca : Nat → ClassId) (ad : Nat → Nat) (sz : Nat) (σ : JS) (x1 : Int32) (out : JS) (hf : mR_receive σ x1 = some out) : Met l yR_receive wsR_receive rmR_receive (jPre D (xT ca) (xC ca ad σ) (xN (va_A (xC ca ad σ) sz)) sz [.ref (ad 5), .int x1, .ref (ad 1)]) (jQv D (xT ca) (xC ca ad) (va_A (xC ca ad σ) sz) out) 0 0 (va_A (xC ca ad σ) sz) := by
  refine Met.ofW (cc := cR_receive) (maxL := 3) (ret := none) (by decide) rfl ?_
  intro p e s m args below meth c s₁ B hml hv
  obtain ⟨rfl, hsz, hP, hK, hD0, hN⟩ := hv
  subst hsz
  have hl := lv_entry [.ref (ad 5), .int x1, .ref (ad 1)] (n := 3) (Nat.le_of_ble_eq_true rfl)
  rw [lg_entry_eq]
  generalize (lg_sl [.ref (ad 5), .int x1, .ref (ad 1)] ++ List.replicate (3 - (lg_sl [.ref (ad 5), .int x1, .ref (ad 1)]).length) Slot.unset).toArray = ls at hl ⊢
  exact bR_receive (fun q h => Or.inr h) ⟨B.exec, B.bytes, hml, findClass_of_methodNamed B.named, fun w h => atoms_spec (ws := wsR_receive) B.pre w (List.mem_cons_of_mem _ h)⟩ hN B.returns B.notSynchronized out σ x1 ls hl ⟨hP, hD0.self, va_S.rf, hK⟩ hf

def rmL_put : Room := { frames := 0, cells := 0, slots := 0, locals := 0 }
def mL_put (σ : JS) (x1 : Int32) : Option (JS) :=
  jwr σ 23 16 (σ 100 3) x1 fun σ1 =>
  jst (jw2 σ1 100 3 ((σ1 100 3) + (1 : Int32))) fun σ4 =>
  some σ4
set_option maxHeartbeats 4000000 in
set_option maxRecDepth 100000 in
theorem bL_put {p : Program} {l : Launch} {e : Env} {s : State} {m : MethodId} {args : Array Value} {below : List Frame} {meth : Method} {c : Code} {D : va_G} {ca : Nat → ClassId} {ad : Nat → Nat} {A : Nat → Prop} (hA : ∀ q, s.heap.size ≤ q → A q) (S : CallFix p m c cL_put 2 s args jall RL) (hN : xN A s) (hr : meth.sig.returnType = none) (hlk : meth.locks = false) (out : JS) (σ : JS) (x1 : Int32) (ls : Array Slot) (hl : lv_has ls 2 [(0, .ref (ad 4)), (1, .int x1)]) (hw : jH D (xT ca) (xC ca ad σ) A s.heap s.heap [] s) (hf : mL_put σ x1 = some out) : W p l e (headSpec wsL_put rmL_put).room s m args below meth c s.heap [] 0 0 (MQ below (jQv D (xT ca) (xC ca ad) A out) args s 0 0 A) (F0 m 0 ls []) := by
  have hx := S.1
  have hb := S.2.1
  unfold mL_put at hf
  refine lv_aload_n (pc := 0) hx hb dL_put_0 rfl (lv_at hl 0 rfl) ?_
  refine j_get (pc := 1) (v := .ref (ad 23)) S hw inL 4 4 0 xg_4 rfl (by decide) k_132 rfl dL_put_1 ?_
  refine lv_aload_n (pc := 4) hx hb dL_put_4 rfl (lv_at hl 0 rfl) ?_
  refine j_get (pc := 5) (v := .int (σ 100 3)) S hw inL 4 4 1 xg_4 rfl (by decide) k_134 rfl dL_put_5 ?_
  refine lv_iload_n (pc := 8) hx hb dL_put_8 rfl (lv_at hl 1 rfl) ?_
  have hg := jwr_e hf; clear hf; obtain ⟨h2, σ1, e3, hf⟩ := hg
  refine j_iast (pc := 9) (ws' := xC ca ad σ1) S hw 23 17 xg_23 xt_23 h2 (by rw [e3]; exact xs_23) dL_put_9 (fun H locs hw => ?_)
  refine lv_aload_n (pc := 10) hx hb dL_put_10 rfl (lv_at hl 0 rfl) ?_
  refine lv_dup (pc := 11) hx hb dL_put_11 rfl ?_
  refine j_get (pc := 12) (v := .int (σ1 100 3)) S hw inL 4 4 1 xg_4 rfl (by decide) k_134 rfl dL_put_12 ?_
  refine lv_iconst (pc := 15) (v := (1 : Int32)) hx hb dL_put_15 (by decide) ?_
  refine lv_iadd (pc := 16) hx hb dL_put_16 ?_
  have hg := jst_e hf; clear hf; obtain ⟨σ4, e5, hf⟩ := hg
  refine j_put (pc := 17) (v := .int ((σ1 100 3) + (1 : Int32))) (ws' := xC ca ad σ4) S hw inL tyL tyL_ok nmL 4 4 1 xg_4 rfl (by decide) k_134 rfl rfl rfl (Nat.le_of_ble_eq_true rfl) (by rw [e5]; exact xp_3) dL_put_17 (fun H locs hw => ?_)
  obtain rfl := jsm hf
  exact j_vret (pc := 20) S hw hr hlk dL_put_20
set_option maxHeartbeats 4000000 in
set_option maxRecDepth 100000 in
theorem kL_put (l : Launch) (D : va_G) (ca : Nat → ClassId) (ad : Nat → Nat) (sz : Nat) (σ : JS) (x1 : Int32) (out : JS) (hf : mL_put σ x1 = some out) : Met l yL_put wsL_put rmL_put (jPre D (xT ca) (xC ca ad σ) (xN (va_A (xC ca ad σ) sz)) sz [.ref (ad 4), .int x1]) (jQv D (xT ca) (xC ca ad) (va_A (xC ca ad σ) sz) out) 0 0 (va_A (xC ca ad σ) sz) := by
  refine Met.ofW (cc := cL_put) (maxL := 2) (ret := none) (by decide) rfl ?_
  intro p e s m args below meth c s₁ B hml hv
  obtain ⟨rfl, hsz, hP, hK, hD0, hN⟩ := hv
  subst hsz
  have hl := lv_entry [.ref (ad 4), .int x1] (n := 2) (Nat.le_of_ble_eq_true rfl)
  rw [lg_entry_eq]
  generalize (lg_sl [.ref (ad 4), .int x1] ++ List.replicate (2 - (lg_sl [.ref (ad 4), .int x1]).length) Slot.unset).toArray = ls at hl ⊢
  exact bL_put (fun q h => Or.inr h) ⟨B.exec, B.bytes, hml, findClass_of_methodNamed B.named, fun w h => atoms_spec (ws := wsL_put) B.pre w (List.mem_cons_of_mem _ h)⟩ hN B.returns B.notSynchronized out σ x1 ls hl ⟨hP, hD0.self, va_S.rf, hK⟩ hf

def rmH_remote : Room := { frames := 2, cells := 0, slots := 0, locals := 43 }
def mH_remote (σ : JS) (x1 : Int32) (x2 : Int32) : Option (Int64) :=
  jbn (mH_isRecord σ x1 x2) fun q1 =>
  if q1 = 0 then
  (some (1099511627776 : Int64))
  else
  (jbn (mH_cellOf σ x1 x2) fun q3 =>
  jrd σ 24 24 q3 fun v5 =>
  some v5.toInt64)
set_option maxHeartbeats 4000000 in
set_option maxRecDepth 100000 in
theorem bH_remote {p : Program} {l : Launch} {e : Env} {s : State} {m : MethodId} {args : Array Value} {below : List Frame} {meth : Method} {c : Code} {D : va_G} {ca : Nat → ClassId} {ad : Nat → Nat} {A : Nat → Prop} (hA : ∀ q, s.heap.size ≤ q → A q) (S : CallFix p m c cH_remote 3 s args jall RH) (hN : xN A s) (hr : meth.sig.returnType = some .long) (hlk : meth.locks = false) (out : Int64) (σ : JS) (x1 : Int32) (x2 : Int32) (ls : Array Slot) (hl : lv_has ls 3 [(0, .ref (ad 0)), (1, .int x1), (2, .int x2)]) (hw : jH D (xT ca) (xC ca ad σ) A s.heap s.heap [] s) (hf : mH_remote σ x1 x2 = some out) : W p l e (headSpec wsH_remote rmH_remote).room s m args below meth c s.heap [] 0 0 (MQ below (jSl out) args s 0 0 (fun _ => False)) (F0 m 0 ls []) := by
  have hx := S.1
  have hb := S.2.1
  unfold mH_remote at hf
  refine lv_aload_n (pc := 0) hx hb dH_remote_0 rfl (lv_at hl 0 rfl) ?_
  refine lv_iload_n (pc := 1) hx hb dH_remote_1 rfl (lv_at hl 1 rfl) ?_
  refine lv_iload_n (pc := 2) hx hb dH_remote_2 rfl (lv_at hl 2 rfl) ?_
  have hg := jbn_e hf; clear hf; obtain ⟨q1, h2, hf⟩ := hg
  refine j_cpi (pc := 3) (v := q1) (va_runV (As := [.int x1, .int x2]) (rest := []) S (kH_isRecord l D ca ad _ σ x1 x2 q1 h2) (cwV 2 S.2.2.2.2 (jgV k_203 k_205 ks_5 k_1 k_206) rfl rfl rfl (by decide +kernel) ⟨Nat.le_of_ble_eq_true rfl, Nat.le_of_ble_eq_true rfl⟩) (j_preV (As := [.int x1, .int x2]) hw xN_b (xN_to hN hw hA) rfl xg_0) rfl rfl hl.1 rfl (lv_room (Nat.le_of_ble_eq_true rfl)) dH_remote_3 ⟨Nat.le_of_ble_eq_true rfl, Nat.le_of_ble_eq_true rfl⟩) ?_
  refine lv_if_eq (pc := 6) (tgt := 26) hx hb dH_remote_6 (by decide) (fun hc => ?_) (fun hc => ?_)
  · replace hf := jit hf hc
    refine lv_ldc2 (pc := 26) (v := (1099511627776 : Int64)) hx hb S.2.2.2.1 (S.2.2.2.2 _ k_214) dH_remote_26 ?_
    obtain rfl := jsm hf
    exact j_lpr (pc := 29) S hr hlk dH_remote_29
  · replace hf := jif hf hc
    refine lv_aload_n (pc := 9) hx hb dH_remote_9 rfl (lv_at hl 0 rfl) ?_
    refine j_get (pc := 10) (v := .ref (ad 5)) S hw inH 0 0 4 xg_0 rfl (by decide) k_166 rfl dH_remote_10 ?_
    refine j_get (pc := 13) (v := .ref (ad 24)) S hw inR 5 5 0 xg_5 rfl (by decide) k_148 rfl dH_remote_13 ?_
    refine lv_iload_n (pc := 16) hx hb dH_remote_16 rfl (lv_at hl 1 rfl) ?_
    refine lv_iload_n (pc := 17) hx hb dH_remote_17 rfl (lv_at hl 2 rfl) ?_
    have hg := jbn_e hf; clear hf; obtain ⟨q3, h4, hf⟩ := hg
    refine j_cpi (pc := 18) (v := q3) (va_runS (As := [.int x1, .int x2]) (rest := [.ref (ad 24)]) S (kH_cellOf l D ca ad _ σ x1 x2 q3 h4) (cwS 2 S.2.2.2.2 (jgS k_211 k_212 k_1 k_213) rfl rfl rfl (by decide +kernel) ⟨Nat.le_of_ble_eq_true rfl, Nat.le_of_ble_eq_true rfl⟩) (j_preS hw xN_b (xN_to hN hw hA)) rfl rfl hl.1 rfl (lv_room (Nat.le_of_ble_eq_true rfl)) dH_remote_18 ⟨Nat.le_of_ble_eq_true rfl, Nat.le_of_ble_eq_true rfl⟩) ?_
    have hg := jrd_e hf; clear hf; obtain ⟨h6, v5, e7, hf⟩ := hg
    refine j_iald (pc := 21) S hw 24 18 xg_24 xt_24 h6 e7 dH_remote_21 ?_
    refine lv_i2l (pc := 22) (v := v5.toInt64) hx hb dH_remote_22 rfl ?_
    refine lv_goto (pc := 23) (tgt := 29) hx hb dH_remote_23 (by decide) ?_
    obtain rfl := jsm hf
    exact j_lpr (pc := 29) S hr hlk dH_remote_29
set_option maxHeartbeats 4000000 in
set_option maxRecDepth 100000 in
theorem kH_remote (l : Launch) (D : va_G) (ca : Nat → ClassId) (ad : Nat → Nat) (sz : Nat) (σ : JS) (x1 : Int32) (x2 : Int32) (out : Int64) (hf : mH_remote σ x1 x2 = some out) : Met l yH_remote wsH_remote rmH_remote (jPre D (xT ca) (xC ca ad σ) (xN (va_A (xC ca ad σ) sz)) sz [.ref (ad 0), .int x1, .int x2]) (jSl out) 0 0 (fun _ => False) := by
  refine Met.ofW (cc := cH_remote) (maxL := 3) (ret := some .long) (by decide) rfl ?_
  intro p e s m args below meth c s₁ B hml hv
  obtain ⟨rfl, hsz, hP, hK, hD0, hN⟩ := hv
  subst hsz
  have hl := lv_entry [.ref (ad 0), .int x1, .int x2] (n := 3) (Nat.le_of_ble_eq_true rfl)
  rw [lg_entry_eq]
  generalize (lg_sl [.ref (ad 0), .int x1, .int x2] ++ List.replicate (3 - (lg_sl [.ref (ad 0), .int x1, .int x2]).length) Slot.unset).toArray = ls at hl ⊢
  exact bH_remote (fun q h => Or.inr h) ⟨B.exec, B.bytes, hml, findClass_of_methodNamed B.named, fun w h => atoms_spec (ws := wsH_remote) B.pre w (List.mem_cons_of_mem _ h)⟩ hN B.returns B.notSynchronized out σ x1 x2 ls hl ⟨hP, hD0.self, va_S.rf, hK⟩ hf

