def rmnH_start : Room := { frames := 6, cells := 0, slots := 0, locals := 110 }
def rmxH_start : Room := { frames := 6, cells := 1, slots := 6, locals := 110 }
def mH_start_L30 (k : JS → Int32 → Option (Nat × Int32 × JS))  : Nat → JS → Int32 → Option (Nat × Int32 × JS)
  | 0, _, _ => none
  | n + 1, σ, x1 =>
    if (σ 100 0) < x1 then
    (k σ x1)
    else
    (jrd σ 6 121 x1 fun v5 =>
    if v5 = (1 : Int32) then
    (jrd σ 8 121 x1 fun v8 =>
    jrd σ 10 121 x1 fun v11 =>
    jwr σ 15 24 v8 v11 fun σ14 =>
    mH_start_L30 k  n σ14 (x1 + 1))
    else
    (mH_start_L30 k  n σ (x1 + 1)))
def mH_start_L100 (k : JS → Int32 → Option (Nat × Int32 × JS))  : Nat → JS → Int32 → Option (Nat × Int32 × JS)
  | 0, _, _ => none
  | n + 1, σ, x1 =>
    if (3 : Int32) ≤ x1 then
    (k σ x1)
    else
    (jbn (mJ_isCycleOpen σ x1) fun q23 =>
    if q23 = 0 then
    (mH_start_L100 k  n σ (x1 + 1))
    else
    (jbn (mH_rollBack σ x1) fun q25 =>
    mH_start_L100 k  n q25 (x1 + 1)))
def mH_start (σ : JS)  : Option (Nat × Int32 × JS) :=
  if (σ 100 8) = 0 then
  (jbn (mS_readDisk σ ) fun q1 =>
  jbn (mJ_startOfOldest q1 ) fun q3 =>
  mH_start_L30 (fun σ17 z18 =>
  jbn (mS_writeDisk σ17 ) fun q19 =>
  jst (jw2 q19 100 8 (1 : Int32)) fun σ21 =>
  mH_start_L100 (fun σ27 z28 =>
  some (0, (σ27 100 0), σ27))  999 σ21 (0 : Int32))  999 q1 q3)
  else
  (some (2, 0, σ))
set_option maxHeartbeats 4000000 in
set_option maxRecDepth 100000 in
theorem wnmH_start_L30g {p : Program} {l : Launch} {e : Env} {s : State} {m : MethodId} {args : Array Value} {below : List Frame} {meth : Method} {c : Code} {D : va_G} {ca : Nat → ClassId} {ad : Nat → Nat} {A : Nat → Prop} (hA : ∀ q, s.heap.size ≤ q → A q) (S : CallFix p m c cH_start 2 s args jall RH) (hN : xN A s) (hr : meth.sig.returnType = some .int) (hlk : meth.locks = false) (vo : Int32) (σo : JS) (k : JS → Int32 → Option (Nat × Int32 × JS))  (hk : ∀ (σ : JS) (x1 : Int32) (ls : Array Slot) (H : Heap) (locs : List Loc), lv_has ls 2 [(0, .ref (ad 0)), (1, .int x1)] → jH D (xT ca) (xC ca ad σ) A s.heap H locs s → k σ x1 = some (0, vo, σo) → W p l e (headSpec wsH_start rmnH_start).room s m args below meth c H locs 0 0 (MQ below (jQi D (xT ca) (xC ca ad) A vo σo) args s 0 0 A) (F0 m 86 ls [])) : ∀ (n : Nat) (σ : JS) (x1 : Int32) (ls : Array Slot) (H : Heap) (locs : List Loc), lv_has ls 2 [(0, .ref (ad 0)), (1, .int x1)] → jH D (xT ca) (xC ca ad σ) A s.heap H locs s → mH_start_L30 k  n σ x1 = some (0, vo, σo) → W p l e (headSpec wsH_start rmnH_start).room s m args below meth c H locs 0 0 (MQ below (jQi D (xT ca) (xC ca ad) A vo σo) args s 0 0 A) (F0 m 30 ls []) := by
  have hx := S.1
  have hb := S.2.1
  intro n
  induction n with
  | zero => intro σ x1 ls H locs hl hw hf; cases hf
  | succ n ih =>
    intro σ x1 ls H locs hl hw hf
    rw [mH_start_L30] at hf
    refine lv_iload_n (pc := 30) hx hb dH_start_30 rfl (lv_at hl 1 rfl) ?_
    refine lv_aload_n (pc := 31) hx hb dH_start_31 rfl (lv_at hl 0 rfl) ?_
    refine j_get (pc := 32) (v := .ref (ad 1)) S hw inH 0 0 0 xg_0 rfl (by decide) k_162 rfl dH_start_32 ?_
    refine j_get (pc := 35) (v := .int (σ 100 0)) S hw inJ 1 1 9 xg_1 rfl (by decide) k_50 rfl dH_start_35 ?_
    refine lv_icmp_gt (pc := 38) (tgt := 86) hx hb dH_start_38 (by decide) (fun hc => ?_) (fun hc => ?_)
    · replace hf := jit hf hc
      exact hk σ x1 _ _ _ (lv_sub hl [0, 1] rfl) hw hf
    · replace hf := jif hf hc
      refine lv_aload_n (pc := 41) hx hb dH_start_41 rfl (lv_at hl 0 rfl) ?_
      refine j_get (pc := 42) (v := .ref (ad 1)) S hw inH 0 0 0 xg_0 rfl (by decide) k_162 rfl dH_start_42 ?_
      refine j_get (pc := 45) (v := .ref (ad 6)) S hw inJ 1 1 0 xg_1 rfl (by decide) k_31 rfl dH_start_45 ?_
      refine lv_iload_n (pc := 48) hx hb dH_start_48 rfl (lv_at hl 1 rfl) ?_
      have hg := jrd_e hf; clear hf; obtain ⟨h6, v5, e7, hf⟩ := hg
      refine j_iald (pc := 49) S hw 6 0 xg_6 xt_6 h6 e7 dH_start_49 ?_
      refine lv_iconst (pc := 50) (v := (1 : Int32)) hx hb dH_start_50 (by decide) ?_
      refine lv_icmp_ne (pc := 51) (tgt := 80) hx hb dH_start_51 (by decide) (fun hc => ?_) (fun hc => ?_)
      · replace hf := jif hf hc
        refine lv_iinc (pc := 80) (v := (x1 + 1)) (k := 1) (lv' := [(1, .int (x1 + 1)), (0, .ref (ad 0))]) hx hb dH_start_80 hl rfl (j_inc _ (by decide)) (by decide) rfl (fun ls hl => ?_)
        refine lv_goto (pc := 83) (tgt := 30) hx hb dH_start_83 (by decide) ?_
        exact ih σ (x1 + 1) _ _ _ (lv_sub hl [1, 0] rfl) hw hf
      · replace hf := jit hf hc
        refine lv_aload_n (pc := 54) hx hb dH_start_54 rfl (lv_at hl 0 rfl) ?_
        refine j_get (pc := 55) (v := .ref (ad 2)) S hw inH 0 0 1 xg_0 rfl (by decide) k_163 rfl dH_start_55 ?_
        refine j_get (pc := 58) (v := .ref (ad 15)) S hw inS 2 2 0 xg_2 rfl (by decide) k_84 rfl dH_start_58 ?_
        refine lv_aload_n (pc := 61) hx hb dH_start_61 rfl (lv_at hl 0 rfl) ?_
        refine j_get (pc := 62) (v := .ref (ad 1)) S hw inH 0 0 0 xg_0 rfl (by decide) k_162 rfl dH_start_62 ?_
        refine j_get (pc := 65) (v := .ref (ad 8)) S hw inJ 1 1 2 xg_1 rfl (by decide) k_37 rfl dH_start_65 ?_
        refine lv_iload_n (pc := 68) hx hb dH_start_68 rfl (lv_at hl 1 rfl) ?_
        have hg := jrd_e hf; clear hf; obtain ⟨h9, v8, e10, hf⟩ := hg
        refine j_iald (pc := 69) S hw 8 2 xg_8 xt_8 h9 e10 dH_start_69 ?_
        refine lv_aload_n (pc := 70) hx hb dH_start_70 rfl (lv_at hl 0 rfl) ?_
        refine j_get (pc := 71) (v := .ref (ad 1)) S hw inH 0 0 0 xg_0 rfl (by decide) k_162 rfl dH_start_71 ?_
        refine j_get (pc := 74) (v := .ref (ad 10)) S hw inJ 1 1 4 xg_1 rfl (by decide) k_43 rfl dH_start_74 ?_
        refine lv_iload_n (pc := 77) hx hb dH_start_77 rfl (lv_at hl 1 rfl) ?_
        have hg := jrd_e hf; clear hf; obtain ⟨h12, v11, e13, hf⟩ := hg
        refine j_iald (pc := 78) S hw 10 4 xg_10 xt_10 h12 e13 dH_start_78 ?_
        have hg := jwr_e hf; clear hf; obtain ⟨h15, σ14, e16, hf⟩ := hg
        refine j_iast (pc := 79) (ws' := xC ca ad σ14) S hw 15 9 xg_15 xt_15 h15 (by rw [e16]; exact xs_15) dH_start_79 (fun H locs hw => ?_)
        refine lv_iinc (pc := 80) (v := (x1 + 1)) (k := 1) (lv' := [(1, .int (x1 + 1)), (0, .ref (ad 0))]) hx hb dH_start_80 hl rfl (j_inc _ (by decide)) (by decide) rfl (fun ls hl => ?_)
        refine lv_goto (pc := 83) (tgt := 30) hx hb dH_start_83 (by decide) ?_
        exact ih σ14 (x1 + 1) _ _ _ (lv_sub hl [1, 0] rfl) hw hf
set_option maxHeartbeats 4000000 in
set_option maxRecDepth 100000 in
theorem wnmH_start_L100g {p : Program} {l : Launch} {e : Env} {s : State} {m : MethodId} {args : Array Value} {below : List Frame} {meth : Method} {c : Code} {D : va_G} {ca : Nat → ClassId} {ad : Nat → Nat} {A : Nat → Prop} (hA : ∀ q, s.heap.size ≤ q → A q) (S : CallFix p m c cH_start 2 s args jall RH) (hN : xN A s) (hr : meth.sig.returnType = some .int) (hlk : meth.locks = false) (vo : Int32) (σo : JS) (k : JS → Int32 → Option (Nat × Int32 × JS))  (hk : ∀ (σ : JS) (x1 : Int32) (ls : Array Slot) (H : Heap) (locs : List Loc), lv_has ls 2 [(0, .ref (ad 0)), (1, .int x1)] → jH D (xT ca) (xC ca ad σ) A s.heap H locs s → k σ x1 = some (0, vo, σo) → W p l e (headSpec wsH_start rmnH_start).room s m args below meth c H locs 0 0 (MQ below (jQi D (xT ca) (xC ca ad) A vo σo) args s 0 0 A) (F0 m 127 ls [])) : ∀ (n : Nat) (σ : JS) (x1 : Int32) (ls : Array Slot) (H : Heap) (locs : List Loc), lv_has ls 2 [(0, .ref (ad 0)), (1, .int x1)] → jH D (xT ca) (xC ca ad σ) A s.heap H locs s → mH_start_L100 k  n σ x1 = some (0, vo, σo) → W p l e (headSpec wsH_start rmnH_start).room s m args below meth c H locs 0 0 (MQ below (jQi D (xT ca) (xC ca ad) A vo σo) args s 0 0 A) (F0 m 100 ls []) := by
  have hx := S.1
  have hb := S.2.1
  intro n
  induction n with
  | zero => intro σ x1 ls H locs hl hw hf; cases hf
  | succ n ih =>
    intro σ x1 ls H locs hl hw hf
    rw [mH_start_L100] at hf
    refine lv_iload_n (pc := 100) hx hb dH_start_100 rfl (lv_at hl 1 rfl) ?_
    refine lv_iconst (pc := 101) (v := (3 : Int32)) hx hb dH_start_101 (by decide) ?_
    refine lv_icmp_ge (pc := 102) (tgt := 127) hx hb dH_start_102 (by decide) (fun hc => ?_) (fun hc => ?_)
    · replace hf := jit hf hc
      exact hk σ x1 _ _ _ (lv_sub hl [0, 1] rfl) hw hf
    · replace hf := jif hf hc
      refine lv_aload_n (pc := 105) hx hb dH_start_105 rfl (lv_at hl 0 rfl) ?_
      refine j_get (pc := 106) (v := .ref (ad 1)) S hw inH 0 0 0 xg_0 rfl (by decide) k_162 rfl dH_start_106 ?_
      refine lv_iload_n (pc := 109) hx hb dH_start_109 rfl (lv_at hl 1 rfl) ?_
      have hg := jbn_e hf; clear hf; obtain ⟨q23, h24, hf⟩ := hg
      refine j_cpi (pc := 110) (v := q23) (va_runV (As := [.int x1]) (rest := []) S (kJ_isCycleOpen l D ca ad _ σ x1 q23 h24) (cwV 1 S.2.2.2.2 (jgV k_424 k_375 k_376 k_2 k_377) rfl rfl rfl (by decide +kernel) ⟨Nat.le_of_ble_eq_true rfl, Nat.le_of_ble_eq_true rfl⟩) (j_preV (As := [.int x1]) hw xN_b (xN_to hN hw hA) rfl xg_1) rfl rfl hl.1 rfl (lv_room (Nat.le_of_ble_eq_true rfl)) dH_start_110 ⟨Nat.le_of_ble_eq_true rfl, Nat.le_of_ble_eq_true rfl⟩) ?_
      refine lv_if_eq (pc := 113) (tgt := 121) hx hb dH_start_113 (by decide) (fun hc => ?_) (fun hc => ?_)
      · replace hf := jit hf hc
        refine lv_iinc (pc := 121) (v := (x1 + 1)) (k := 1) (lv' := [(1, .int (x1 + 1)), (0, .ref (ad 0))]) hx hb dH_start_121 hl rfl (j_inc _ (by decide)) (by decide) rfl (fun ls hl => ?_)
        refine lv_goto (pc := 124) (tgt := 100) hx hb dH_start_124 (by decide) ?_
        exact ih σ (x1 + 1) _ _ _ (lv_sub hl [1, 0] rfl) hw hf
      · replace hf := jif hf hc
        refine lv_aload_n (pc := 116) hx hb dH_start_116 rfl (lv_at hl 0 rfl) ?_
        refine lv_iload_n (pc := 117) hx hb dH_start_117 rfl (lv_at hl 1 rfl) ?_
        have hg := jbn_e hf; clear hf; obtain ⟨q25, h26, hf⟩ := hg
        refine j_callv (pc := 118) (C := xC ca ad) (σ' := q25) hw hA (va_runV (As := [.int x1]) (rest := []) S (kH_rollBack l D ca ad _ σ x1 q25 h26) (cwV 1 S.2.2.2.2 (jgV k_429 k_431 ks_8 k_1 k_432) rfl rfl rfl (by decide +kernel) ⟨Nat.le_of_ble_eq_true rfl, Nat.le_of_ble_eq_true rfl⟩) (j_preV (As := [.int x1]) hw xN_b (xN_to hN hw hA) rfl xg_0) rfl rfl hl.1 rfl (lv_room (Nat.le_of_ble_eq_true rfl)) dH_start_118 ⟨Nat.le_of_ble_eq_true rfl, Nat.le_of_ble_eq_true rfl⟩) (fun H locs hw => ?_)
        refine lv_iinc (pc := 121) (v := (x1 + 1)) (k := 1) (lv' := [(1, .int (x1 + 1)), (0, .ref (ad 0))]) hx hb dH_start_121 hl rfl (j_inc _ (by decide)) (by decide) rfl (fun ls hl => ?_)
        refine lv_goto (pc := 124) (tgt := 100) hx hb dH_start_124 (by decide) ?_
        exact ih q25 (x1 + 1) _ _ _ (lv_sub hl [1, 0] rfl) hw hf
set_option maxHeartbeats 4000000 in
set_option maxRecDepth 100000 in
theorem bnH_start {p : Program} {l : Launch} {e : Env} {s : State} {m : MethodId} {args : Array Value} {below : List Frame} {meth : Method} {c : Code} {D : va_G} {ca : Nat → ClassId} {ad : Nat → Nat} {A : Nat → Prop} (hA : ∀ q, s.heap.size ≤ q → A q) (S : CallFix p m c cH_start 2 s args jall RH) (hN : xN A s) (hr : meth.sig.returnType = some .int) (hlk : meth.locks = false) (vo : Int32) (σo : JS) (σ : JS)  (ls : Array Slot) (hl : lv_has ls 2 [(0, .ref (ad 0))]) (hw : jH D (xT ca) (xC ca ad σ) A s.heap s.heap [] s) (hf : mH_start σ  = some (0, vo, σo)) : W p l e (headSpec wsH_start rmnH_start).room s m args below meth c s.heap [] 0 0 (MQ below (jQi D (xT ca) (xC ca ad) A vo σo) args s 0 0 A) (F0 m 0 ls []) := by
  have hx := S.1
  have hb := S.2.1
  unfold mH_start at hf
  refine lv_aload_n (pc := 0) hx hb dH_start_0 rfl (lv_at hl 0 rfl) ?_
  refine j_get (pc := 1) (v := .int (σ 100 8)) S hw inH 0 0 11 xg_0 rfl (by decide) k_173 rfl dH_start_1 ?_
  refine lv_if_eq (pc := 4) (tgt := 15) hx hb dH_start_4 (by decide) (fun hc => ?_) (fun hc => ?_)
  · replace hf := jit hf hc
    refine lv_aload_n (pc := 15) hx hb dH_start_15 rfl (lv_at hl 0 rfl) ?_
    refine j_get (pc := 16) (v := .ref (ad 2)) S hw inH 0 0 1 xg_0 rfl (by decide) k_163 rfl dH_start_16 ?_
    have hg := jbn_e hf; clear hf; obtain ⟨q1, h2, hf⟩ := hg
    refine j_callv (pc := 19) (C := xC ca ad) (σ' := q1) hw hA (va_runV (As := []) (rest := []) S (kS_readDisk l D ca ad _ σ  q1 h2) (cwV 0 S.2.2.2.2 (jgV k_550 k_551 k_552 k_3 k_553) rfl rfl rfl (by decide +kernel) ⟨Nat.le_of_ble_eq_true rfl, Nat.le_of_ble_eq_true rfl⟩) (j_preV (As := []) hw xN_b (xN_to hN hw hA) rfl xg_2) rfl rfl hl.1 rfl (lv_room (Nat.le_of_ble_eq_true rfl)) dH_start_19 ⟨Nat.le_of_ble_eq_true rfl, Nat.le_of_ble_eq_true rfl⟩) (fun H locs hw => ?_)
    refine lv_aload_n (pc := 22) hx hb dH_start_22 rfl (lv_at hl 0 rfl) ?_
    refine j_get (pc := 23) (v := .ref (ad 1)) S hw inH 0 0 0 xg_0 rfl (by decide) k_162 rfl dH_start_23 ?_
    have hg := jbn_e hf; clear hf; obtain ⟨q3, h4, hf⟩ := hg
    refine j_cpi (pc := 26) (v := q3) (va_runV (As := []) (rest := []) S (kJ_startOfOldest l D ca ad _ q1  q3 h4) (cwV 0 S.2.2.2.2 (jgV k_554 k_244 k_245 k_2 k_246) rfl rfl rfl (by decide +kernel) ⟨Nat.le_of_ble_eq_true rfl, Nat.le_of_ble_eq_true rfl⟩) (j_preV (As := []) hw xN_b (xN_to hN hw hA) rfl xg_1) rfl rfl hl.1 rfl (lv_room (Nat.le_of_ble_eq_true rfl)) dH_start_26 ⟨Nat.le_of_ble_eq_true rfl, Nat.le_of_ble_eq_true rfl⟩) ?_
    refine lv_istore_n (pc := 29) (lv' := [(1, .int q3), (0, .ref (ad 0))]) hx hb dH_start_29 rfl hl (by decide) rfl (fun ls hl => ?_)
    refine wnmH_start_L30g hA S hN hr hlk vo σo _  (fun σ17 z18 ls H locs hl hw hf => ?_) 999 q1 q3 _ _ _ (lv_sub hl [1, 0] rfl) hw hf
    try dsimp only at hf
    refine lv_aload_n (pc := 86) hx hb dH_start_86 rfl (lv_at hl 0 rfl) ?_
    refine j_get (pc := 87) (v := .ref (ad 2)) S hw inH 0 0 1 xg_0 rfl (by decide) k_163 rfl dH_start_87 ?_
    have hg := jbn_e hf; clear hf; obtain ⟨q19, h20, hf⟩ := hg
    refine j_callv (pc := 90) (C := xC ca ad) (σ' := q19) hw hA (va_runV (As := []) (rest := []) S (kS_writeDisk l D ca ad _ σ17  q19 h20) (cwV 0 S.2.2.2.2 (jgV k_555 k_556 k_557 k_3 k_558) rfl rfl rfl (by decide +kernel) ⟨Nat.le_of_ble_eq_true rfl, Nat.le_of_ble_eq_true rfl⟩) (j_preV (As := []) hw xN_b (xN_to hN hw hA) rfl xg_2) rfl rfl hl.1 rfl (lv_room (Nat.le_of_ble_eq_true rfl)) dH_start_90 ⟨Nat.le_of_ble_eq_true rfl, Nat.le_of_ble_eq_true rfl⟩) (fun H locs hw => ?_)
    refine lv_aload_n (pc := 93) hx hb dH_start_93 rfl (lv_at hl 0 rfl) ?_
    refine lv_iconst (pc := 94) (v := (1 : Int32)) hx hb dH_start_94 (by decide) ?_
    have hg := jst_e hf; clear hf; obtain ⟨σ21, e22, hf⟩ := hg
    refine j_put (pc := 95) (v := .int (1 : Int32)) (ws' := xC ca ad σ21) S hw inH tyH tyH_ok nmH 0 0 11 xg_0 rfl (by decide) k_173 rfl rfl rfl (Nat.le_of_ble_eq_true rfl) (by rw [e22]; exact xp_8) dH_start_95 (fun H locs hw => ?_)
    refine lv_iconst (pc := 98) (v := (0 : Int32)) hx hb dH_start_98 (by decide) ?_
    refine lv_istore_n (pc := 99) (lv' := [(1, .int (0 : Int32)), (0, .ref (ad 0))]) hx hb dH_start_99 rfl hl (by decide) rfl (fun ls hl => ?_)
    refine wnmH_start_L100g hA S hN hr hlk vo σo _  (fun σ27 z28 ls H locs hl hw hf => ?_) 999 σ21 (0 : Int32) _ _ _ (lv_sub hl [1, 0] rfl) hw hf
    try dsimp only at hf
    refine lv_aload_n (pc := 127) hx hb dH_start_127 rfl (lv_at hl 0 rfl) ?_
    refine j_get (pc := 128) (v := .ref (ad 1)) S hw inH 0 0 0 xg_0 rfl (by decide) k_162 rfl dH_start_128 ?_
    refine j_get (pc := 131) (v := .int (σ27 100 0)) S hw inJ 1 1 9 xg_1 rfl (by decide) k_50 rfl dH_start_131 ?_
    obtain ⟨rfl, rfl⟩ := jo0 hf
    exact j_iret (pc := 134) S hw hr hlk dH_start_134
  · replace hf := jif hf hc
    exact (jo2 hf).elim
set_option maxHeartbeats 4000000 in
set_option maxRecDepth 100000 in
theorem knH_start (l : Launch) (D : va_G) (ca : Nat → ClassId) (ad : Nat → Nat) (sz : Nat) (σ : JS)  (vo : Int32) (σo : JS) (hf : mH_start σ  = some (0, vo, σo)) : Met l yH_start wsH_start rmnH_start (jPre D (xT ca) (xC ca ad σ) (xN (va_A (xC ca ad σ) sz)) sz [.ref (ad 0)]) (jQi D (xT ca) (xC ca ad) (va_A (xC ca ad σ) sz) vo σo) 0 0 (va_A (xC ca ad σ) sz) := by
  refine Met.ofW (cc := cH_start) (maxL := 2) (ret := some .int) (by decide) rfl ?_
  intro p e s m args below meth c s₁ B hml hv
  obtain ⟨rfl, hsz, hP, hK, hD0, hN⟩ := hv
  subst hsz
  have hl := lv_entry [.ref (ad 0)] (n := 2) (Nat.le_of_ble_eq_true rfl)
  rw [lg_entry_eq]
  generalize (lg_sl [.ref (ad 0)] ++ List.replicate (2 - (lg_sl [.ref (ad 0)]).length) Slot.unset).toArray = ls at hl ⊢
  exact bnH_start (fun q h => Or.inr h) ⟨B.exec, B.bytes, hml, findClass_of_methodNamed B.named, fun w h => atoms_spec (ws := wsH_start) B.pre w (List.mem_cons_of_mem _ h)⟩ hN B.returns B.notSynchronized vo σo σ  ls hl ⟨hP, hD0.self, va_S.rf, hK⟩ hf
set_option maxHeartbeats 4000000 in
set_option maxRecDepth 100000 in
theorem wxmH_start_L30g {p : Program} {l : Launch} {e : Env} {s : State} {m : MethodId} {args : Array Value} {below : List Frame} {meth : Method} {c : Code} {D : va_G} {ca : Nat → ClassId} {ad : Nat → Nat} {A : Nat → Prop} (hA : ∀ q, s.heap.size ≤ q → A q) (S : CallFix p m c cH_start 2 s args jall RH) (hN : xN A s) (hr : meth.sig.returnType = some .int) (hlk : meth.locks = false) (hl9 : l.stackTraces = false) (ht9 : ∀ x ∈ c.exceptionTable.toList, False) (ko : Nat) (vo : Int32) (σo : JS) (hko : ¬ ko = 0) (k : JS → Int32 → Option (Nat × Int32 × JS))  (hk : ∀ (σ : JS) (x1 : Int32) (ls : Array Slot) (H : Heap) (locs : List Loc), lv_has ls 2 [(0, .ref (ad 0)), (1, .int x1)] → jH D (xT ca) (xC ca ad σ) A s.heap H locs s → k σ x1 = some (ko, vo, σo) → W p l e (headSpec wsH_start rmxH_start).room s m args below meth c H locs 0 0 (jxQ below s (jE ko) (jB D (xT ca) (xC ca ad) A σo) A 1 6) (F0 m 86 ls [])) : ∀ (n : Nat) (σ : JS) (x1 : Int32) (ls : Array Slot) (H : Heap) (locs : List Loc), lv_has ls 2 [(0, .ref (ad 0)), (1, .int x1)] → jH D (xT ca) (xC ca ad σ) A s.heap H locs s → mH_start_L30 k  n σ x1 = some (ko, vo, σo) → W p l e (headSpec wsH_start rmxH_start).room s m args below meth c H locs 0 0 (jxQ below s (jE ko) (jB D (xT ca) (xC ca ad) A σo) A 1 6) (F0 m 30 ls []) := by
  have hx := S.1
  have hb := S.2.1
  intro n
  induction n with
  | zero => intro σ x1 ls H locs hl hw hf; cases hf
  | succ n ih =>
    intro σ x1 ls H locs hl hw hf
    rw [mH_start_L30] at hf
    refine lv_iload_n (pc := 30) hx hb dH_start_30 rfl (lv_at hl 1 rfl) ?_
    refine lv_aload_n (pc := 31) hx hb dH_start_31 rfl (lv_at hl 0 rfl) ?_
    refine j_get (pc := 32) (v := .ref (ad 1)) S hw inH 0 0 0 xg_0 rfl (by decide) k_162 rfl dH_start_32 ?_
    refine j_get (pc := 35) (v := .int (σ 100 0)) S hw inJ 1 1 9 xg_1 rfl (by decide) k_50 rfl dH_start_35 ?_
    refine lv_icmp_gt (pc := 38) (tgt := 86) hx hb dH_start_38 (by decide) (fun hc => ?_) (fun hc => ?_)
    · replace hf := jit hf hc
      exact hk σ x1 _ _ _ (lv_sub hl [0, 1] rfl) hw hf
    · replace hf := jif hf hc
      refine lv_aload_n (pc := 41) hx hb dH_start_41 rfl (lv_at hl 0 rfl) ?_
      refine j_get (pc := 42) (v := .ref (ad 1)) S hw inH 0 0 0 xg_0 rfl (by decide) k_162 rfl dH_start_42 ?_
      refine j_get (pc := 45) (v := .ref (ad 6)) S hw inJ 1 1 0 xg_1 rfl (by decide) k_31 rfl dH_start_45 ?_
      refine lv_iload_n (pc := 48) hx hb dH_start_48 rfl (lv_at hl 1 rfl) ?_
      have hg := jrd_e hf; clear hf; obtain ⟨h6, v5, e7, hf⟩ := hg
      refine j_iald (pc := 49) S hw 6 0 xg_6 xt_6 h6 e7 dH_start_49 ?_
      refine lv_iconst (pc := 50) (v := (1 : Int32)) hx hb dH_start_50 (by decide) ?_
      refine lv_icmp_ne (pc := 51) (tgt := 80) hx hb dH_start_51 (by decide) (fun hc => ?_) (fun hc => ?_)
      · replace hf := jif hf hc
        refine lv_iinc (pc := 80) (v := (x1 + 1)) (k := 1) (lv' := [(1, .int (x1 + 1)), (0, .ref (ad 0))]) hx hb dH_start_80 hl rfl (j_inc _ (by decide)) (by decide) rfl (fun ls hl => ?_)
        refine lv_goto (pc := 83) (tgt := 30) hx hb dH_start_83 (by decide) ?_
        exact ih σ (x1 + 1) _ _ _ (lv_sub hl [1, 0] rfl) hw hf
      · replace hf := jit hf hc
        refine lv_aload_n (pc := 54) hx hb dH_start_54 rfl (lv_at hl 0 rfl) ?_
        refine j_get (pc := 55) (v := .ref (ad 2)) S hw inH 0 0 1 xg_0 rfl (by decide) k_163 rfl dH_start_55 ?_
        refine j_get (pc := 58) (v := .ref (ad 15)) S hw inS 2 2 0 xg_2 rfl (by decide) k_84 rfl dH_start_58 ?_
        refine lv_aload_n (pc := 61) hx hb dH_start_61 rfl (lv_at hl 0 rfl) ?_
        refine j_get (pc := 62) (v := .ref (ad 1)) S hw inH 0 0 0 xg_0 rfl (by decide) k_162 rfl dH_start_62 ?_
        refine j_get (pc := 65) (v := .ref (ad 8)) S hw inJ 1 1 2 xg_1 rfl (by decide) k_37 rfl dH_start_65 ?_
        refine lv_iload_n (pc := 68) hx hb dH_start_68 rfl (lv_at hl 1 rfl) ?_
        have hg := jrd_e hf; clear hf; obtain ⟨h9, v8, e10, hf⟩ := hg
        refine j_iald (pc := 69) S hw 8 2 xg_8 xt_8 h9 e10 dH_start_69 ?_
        refine lv_aload_n (pc := 70) hx hb dH_start_70 rfl (lv_at hl 0 rfl) ?_
        refine j_get (pc := 71) (v := .ref (ad 1)) S hw inH 0 0 0 xg_0 rfl (by decide) k_162 rfl dH_start_71 ?_
        refine j_get (pc := 74) (v := .ref (ad 10)) S hw inJ 1 1 4 xg_1 rfl (by decide) k_43 rfl dH_start_74 ?_
        refine lv_iload_n (pc := 77) hx hb dH_start_77 rfl (lv_at hl 1 rfl) ?_
        have hg := jrd_e hf; clear hf; obtain ⟨h12, v11, e13, hf⟩ := hg
        refine j_iald (pc := 78) S hw 10 4 xg_10 xt_10 h12 e13 dH_start_78 ?_
        have hg := jwr_e hf; clear hf; obtain ⟨h15, σ14, e16, hf⟩ := hg
        refine j_iast (pc := 79) (ws' := xC ca ad σ14) S hw 15 9 xg_15 xt_15 h15 (by rw [e16]; exact xs_15) dH_start_79 (fun H locs hw => ?_)
        refine lv_iinc (pc := 80) (v := (x1 + 1)) (k := 1) (lv' := [(1, .int (x1 + 1)), (0, .ref (ad 0))]) hx hb dH_start_80 hl rfl (j_inc _ (by decide)) (by decide) rfl (fun ls hl => ?_)
        refine lv_goto (pc := 83) (tgt := 30) hx hb dH_start_83 (by decide) ?_
        exact ih σ14 (x1 + 1) _ _ _ (lv_sub hl [1, 0] rfl) hw hf
set_option maxHeartbeats 4000000 in
set_option maxRecDepth 100000 in
theorem wxmH_start_L100g {p : Program} {l : Launch} {e : Env} {s : State} {m : MethodId} {args : Array Value} {below : List Frame} {meth : Method} {c : Code} {D : va_G} {ca : Nat → ClassId} {ad : Nat → Nat} {A : Nat → Prop} (hA : ∀ q, s.heap.size ≤ q → A q) (S : CallFix p m c cH_start 2 s args jall RH) (hN : xN A s) (hr : meth.sig.returnType = some .int) (hlk : meth.locks = false) (hl9 : l.stackTraces = false) (ht9 : ∀ x ∈ c.exceptionTable.toList, False) (ko : Nat) (vo : Int32) (σo : JS) (hko : ¬ ko = 0) (k : JS → Int32 → Option (Nat × Int32 × JS))  (hk : ∀ (σ : JS) (x1 : Int32) (ls : Array Slot) (H : Heap) (locs : List Loc), lv_has ls 2 [(0, .ref (ad 0)), (1, .int x1)] → jH D (xT ca) (xC ca ad σ) A s.heap H locs s → k σ x1 = some (ko, vo, σo) → W p l e (headSpec wsH_start rmxH_start).room s m args below meth c H locs 0 0 (jxQ below s (jE ko) (jB D (xT ca) (xC ca ad) A σo) A 1 6) (F0 m 127 ls [])) : ∀ (n : Nat) (σ : JS) (x1 : Int32) (ls : Array Slot) (H : Heap) (locs : List Loc), lv_has ls 2 [(0, .ref (ad 0)), (1, .int x1)] → jH D (xT ca) (xC ca ad σ) A s.heap H locs s → mH_start_L100 k  n σ x1 = some (ko, vo, σo) → W p l e (headSpec wsH_start rmxH_start).room s m args below meth c H locs 0 0 (jxQ below s (jE ko) (jB D (xT ca) (xC ca ad) A σo) A 1 6) (F0 m 100 ls []) := by
  have hx := S.1
  have hb := S.2.1
  intro n
  induction n with
  | zero => intro σ x1 ls H locs hl hw hf; cases hf
  | succ n ih =>
    intro σ x1 ls H locs hl hw hf
    rw [mH_start_L100] at hf
    refine lv_iload_n (pc := 100) hx hb dH_start_100 rfl (lv_at hl 1 rfl) ?_
    refine lv_iconst (pc := 101) (v := (3 : Int32)) hx hb dH_start_101 (by decide) ?_
    refine lv_icmp_ge (pc := 102) (tgt := 127) hx hb dH_start_102 (by decide) (fun hc => ?_) (fun hc => ?_)
    · replace hf := jit hf hc
      exact hk σ x1 _ _ _ (lv_sub hl [0, 1] rfl) hw hf
    · replace hf := jif hf hc
      refine lv_aload_n (pc := 105) hx hb dH_start_105 rfl (lv_at hl 0 rfl) ?_
      refine j_get (pc := 106) (v := .ref (ad 1)) S hw inH 0 0 0 xg_0 rfl (by decide) k_162 rfl dH_start_106 ?_
      refine lv_iload_n (pc := 109) hx hb dH_start_109 rfl (lv_at hl 1 rfl) ?_
      have hg := jbn_e hf; clear hf; obtain ⟨q23, h24, hf⟩ := hg
      refine j_cpi (pc := 110) (v := q23) (va_runV (As := [.int x1]) (rest := []) S (kJ_isCycleOpen l D ca ad _ σ x1 q23 h24) (cwV 1 S.2.2.2.2 (jgV k_424 k_375 k_376 k_2 k_377) rfl rfl rfl (by decide +kernel) ⟨Nat.le_of_ble_eq_true rfl, Nat.le_of_ble_eq_true rfl⟩) (j_preV (As := [.int x1]) hw xN_b (xN_to hN hw hA) rfl xg_1) rfl rfl hl.1 rfl (lv_room (Nat.le_of_ble_eq_true rfl)) dH_start_110 ⟨Nat.le_of_ble_eq_true rfl, Nat.le_of_ble_eq_true rfl⟩) ?_
      refine lv_if_eq (pc := 113) (tgt := 121) hx hb dH_start_113 (by decide) (fun hc => ?_) (fun hc => ?_)
      · replace hf := jit hf hc
        refine lv_iinc (pc := 121) (v := (x1 + 1)) (k := 1) (lv' := [(1, .int (x1 + 1)), (0, .ref (ad 0))]) hx hb dH_start_121 hl rfl (j_inc _ (by decide)) (by decide) rfl (fun ls hl => ?_)
        refine lv_goto (pc := 124) (tgt := 100) hx hb dH_start_124 (by decide) ?_
        exact ih σ (x1 + 1) _ _ _ (lv_sub hl [1, 0] rfl) hw hf
      · replace hf := jif hf hc
        refine lv_aload_n (pc := 116) hx hb dH_start_116 rfl (lv_at hl 0 rfl) ?_
        refine lv_iload_n (pc := 117) hx hb dH_start_117 rfl (lv_at hl 1 rfl) ?_
        have hg := jbn_e hf; clear hf; obtain ⟨q25, h26, hf⟩ := hg
        refine j_callv (pc := 118) (C := xC ca ad) (σ' := q25) hw hA (va_runV (As := [.int x1]) (rest := []) S (kH_rollBack l D ca ad _ σ x1 q25 h26) (cwV 1 S.2.2.2.2 (jgV k_429 k_431 ks_8 k_1 k_432) rfl rfl rfl (by decide +kernel) ⟨Nat.le_of_ble_eq_true rfl, Nat.le_of_ble_eq_true rfl⟩) (j_preV (As := [.int x1]) hw xN_b (xN_to hN hw hA) rfl xg_0) rfl rfl hl.1 rfl (lv_room (Nat.le_of_ble_eq_true rfl)) dH_start_118 ⟨Nat.le_of_ble_eq_true rfl, Nat.le_of_ble_eq_true rfl⟩) (fun H locs hw => ?_)
        refine lv_iinc (pc := 121) (v := (x1 + 1)) (k := 1) (lv' := [(1, .int (x1 + 1)), (0, .ref (ad 0))]) hx hb dH_start_121 hl rfl (j_inc _ (by decide)) (by decide) rfl (fun ls hl => ?_)
        refine lv_goto (pc := 124) (tgt := 100) hx hb dH_start_124 (by decide) ?_
        exact ih q25 (x1 + 1) _ _ _ (lv_sub hl [1, 0] rfl) hw hf
set_option maxHeartbeats 4000000 in
set_option maxRecDepth 100000 in
theorem bxH_start {p : Program} {l : Launch} {e : Env} {s : State} {m : MethodId} {args : Array Value} {below : List Frame} {meth : Method} {c : Code} {D : va_G} {ca : Nat → ClassId} {ad : Nat → Nat} {A : Nat → Prop} (hA : ∀ q, s.heap.size ≤ q → A q) (S : CallFix p m c cH_start 2 s args jall RH) (hN : xN A s) (hr : meth.sig.returnType = some .int) (hlk : meth.locks = false) (hl9 : l.stackTraces = false) (ht9 : ∀ x ∈ c.exceptionTable.toList, False) (ko : Nat) (vo : Int32) (σo : JS) (hko : ¬ ko = 0) (σ : JS)  (ls : Array Slot) (hl : lv_has ls 2 [(0, .ref (ad 0))]) (hw : jH D (xT ca) (xC ca ad σ) A s.heap s.heap [] s) (hf : mH_start σ  = some (ko, vo, σo)) : W p l e (headSpec wsH_start rmxH_start).room s m args below meth c s.heap [] 0 0 (jxQ below s (jE ko) (jB D (xT ca) (xC ca ad) A σo) A 1 6) (F0 m 0 ls []) := by
  have hx := S.1
  have hb := S.2.1
  unfold mH_start at hf
  refine lv_aload_n (pc := 0) hx hb dH_start_0 rfl (lv_at hl 0 rfl) ?_
  refine j_get (pc := 1) (v := .int (σ 100 8)) S hw inH 0 0 11 xg_0 rfl (by decide) k_173 rfl dH_start_1 ?_
  refine lv_if_eq (pc := 4) (tgt := 15) hx hb dH_start_4 (by decide) (fun hc => ?_) (fun hc => ?_)
  · replace hf := jit hf hc
    refine lv_aload_n (pc := 15) hx hb dH_start_15 rfl (lv_at hl 0 rfl) ?_
    refine j_get (pc := 16) (v := .ref (ad 2)) S hw inH 0 0 1 xg_0 rfl (by decide) k_163 rfl dH_start_16 ?_
    have hg := jbn_e hf; clear hf; obtain ⟨q1, h2, hf⟩ := hg
    refine j_callv (pc := 19) (C := xC ca ad) (σ' := q1) hw hA (va_runV (As := []) (rest := []) S (kS_readDisk l D ca ad _ σ  q1 h2) (cwV 0 S.2.2.2.2 (jgV k_550 k_551 k_552 k_3 k_553) rfl rfl rfl (by decide +kernel) ⟨Nat.le_of_ble_eq_true rfl, Nat.le_of_ble_eq_true rfl⟩) (j_preV (As := []) hw xN_b (xN_to hN hw hA) rfl xg_2) rfl rfl hl.1 rfl (lv_room (Nat.le_of_ble_eq_true rfl)) dH_start_19 ⟨Nat.le_of_ble_eq_true rfl, Nat.le_of_ble_eq_true rfl⟩) (fun H locs hw => ?_)
    refine lv_aload_n (pc := 22) hx hb dH_start_22 rfl (lv_at hl 0 rfl) ?_
    refine j_get (pc := 23) (v := .ref (ad 1)) S hw inH 0 0 0 xg_0 rfl (by decide) k_162 rfl dH_start_23 ?_
    have hg := jbn_e hf; clear hf; obtain ⟨q3, h4, hf⟩ := hg
    refine j_cpi (pc := 26) (v := q3) (va_runV (As := []) (rest := []) S (kJ_startOfOldest l D ca ad _ q1  q3 h4) (cwV 0 S.2.2.2.2 (jgV k_554 k_244 k_245 k_2 k_246) rfl rfl rfl (by decide +kernel) ⟨Nat.le_of_ble_eq_true rfl, Nat.le_of_ble_eq_true rfl⟩) (j_preV (As := []) hw xN_b (xN_to hN hw hA) rfl xg_1) rfl rfl hl.1 rfl (lv_room (Nat.le_of_ble_eq_true rfl)) dH_start_26 ⟨Nat.le_of_ble_eq_true rfl, Nat.le_of_ble_eq_true rfl⟩) ?_
    refine lv_istore_n (pc := 29) (lv' := [(1, .int q3), (0, .ref (ad 0))]) hx hb dH_start_29 rfl hl (by decide) rfl (fun ls hl => ?_)
    refine wxmH_start_L30g hA S hN hr hlk hl9 ht9 ko vo σo hko _  (fun σ17 z18 ls H locs hl hw hf => ?_) 999 q1 q3 _ _ _ (lv_sub hl [1, 0] rfl) hw hf
    try dsimp only at hf
    refine lv_aload_n (pc := 86) hx hb dH_start_86 rfl (lv_at hl 0 rfl) ?_
    refine j_get (pc := 87) (v := .ref (ad 2)) S hw inH 0 0 1 xg_0 rfl (by decide) k_163 rfl dH_start_87 ?_
    have hg := jbn_e hf; clear hf; obtain ⟨q19, h20, hf⟩ := hg
    refine j_callv (pc := 90) (C := xC ca ad) (σ' := q19) hw hA (va_runV (As := []) (rest := []) S (kS_writeDisk l D ca ad _ σ17  q19 h20) (cwV 0 S.2.2.2.2 (jgV k_555 k_556 k_557 k_3 k_558) rfl rfl rfl (by decide +kernel) ⟨Nat.le_of_ble_eq_true rfl, Nat.le_of_ble_eq_true rfl⟩) (j_preV (As := []) hw xN_b (xN_to hN hw hA) rfl xg_2) rfl rfl hl.1 rfl (lv_room (Nat.le_of_ble_eq_true rfl)) dH_start_90 ⟨Nat.le_of_ble_eq_true rfl, Nat.le_of_ble_eq_true rfl⟩) (fun H locs hw => ?_)
    refine lv_aload_n (pc := 93) hx hb dH_start_93 rfl (lv_at hl 0 rfl) ?_
    refine lv_iconst (pc := 94) (v := (1 : Int32)) hx hb dH_start_94 (by decide) ?_
    have hg := jst_e hf; clear hf; obtain ⟨σ21, e22, hf⟩ := hg
    refine j_put (pc := 95) (v := .int (1 : Int32)) (ws' := xC ca ad σ21) S hw inH tyH tyH_ok nmH 0 0 11 xg_0 rfl (by decide) k_173 rfl rfl rfl (Nat.le_of_ble_eq_true rfl) (by rw [e22]; exact xp_8) dH_start_95 (fun H locs hw => ?_)
    refine lv_iconst (pc := 98) (v := (0 : Int32)) hx hb dH_start_98 (by decide) ?_
    refine lv_istore_n (pc := 99) (lv' := [(1, .int (0 : Int32)), (0, .ref (ad 0))]) hx hb dH_start_99 rfl hl (by decide) rfl (fun ls hl => ?_)
    refine wxmH_start_L100g hA S hN hr hlk hl9 ht9 ko vo σo hko _  (fun σ27 z28 ls H locs hl hw hf => ?_) 999 σ21 (0 : Int32) _ _ _ (lv_sub hl [1, 0] rfl) hw hf
    try dsimp only at hf
    refine lv_aload_n (pc := 127) hx hb dH_start_127 rfl (lv_at hl 0 rfl) ?_
    refine j_get (pc := 128) (v := .ref (ad 1)) S hw inH 0 0 0 xg_0 rfl (by decide) k_162 rfl dH_start_128 ?_
    refine j_get (pc := 131) (v := .int (σ27 100 0)) S hw inJ 1 1 9 xg_1 rfl (by decide) k_50 rfl dH_start_131 ?_
    exact absurd (jo1 hf) hko
  · replace hf := jif hf hc
    obtain ⟨rfl, rfl, rfl⟩ := jo4 hf
    exact jx_throw (pc := 7) (own := RH) (cls := jE 2) (names := jnm) (ik := 68) (ic := 70) hx hb hl9 S.2.2.2.1 (by decide +kernel) (by decide +kernel) (S.2.2.2.2 _ k_340) (S.2.2.2.2 _ k_12) (jxw_of S hN jxw2) (hl.1.trans S.2.2.1.symm) dH_start_7 dH_start_10 dH_start_11 dH_start_14 ht9 (Nat.le_of_ble_eq_true rfl) (Nat.le_of_ble_eq_true rfl) (Nat.le_of_ble_eq_true rfl) (Nat.le_of_ble_eq_true rfl) hlk (Nat.le_refl _) (Nat.le_refl _) (jB_kept hw)
set_option maxHeartbeats 4000000 in
set_option maxRecDepth 100000 in
theorem kxH_start (l : Launch) (hl9 : l.stackTraces = false) (D : va_G) (ca : Nat → ClassId) (ad : Nat → Nat) (sz : Nat) (σ : JS)  (ko : Nat) (vo : Int32) (σo : JS) (hko : ¬ ko = 0) (hf : mH_start σ  = some (ko, vo, σo)) : jxM l yH_start wsH_start rmxH_start (jPre D (xT ca) (xC ca ad σ) (xN (va_A (xC ca ad σ) sz)) sz [.ref (ad 0)]) (jE ko) (jB D (xT ca) (xC ca ad) (va_A (xC ca ad σ) sz) σo) (va_A (xC ca ad σ) sz) 1 6 := by
  refine jxM_of (cc := cH_start) (maxL := 2) (ret := some .int) (by decide) rfl ?_
  intro p e s m args below meth c s₁ B hml hnil hv
  obtain ⟨rfl, hsz, hP, hK, hD0, hN⟩ := hv
  subst hsz
  have hl := lv_entry [.ref (ad 0)] (n := 2) (Nat.le_of_ble_eq_true rfl)
  rw [lg_entry_eq]
  generalize (lg_sl [.ref (ad 0)] ++ List.replicate (2 - (lg_sl [.ref (ad 0)]).length) Slot.unset).toArray = ls at hl ⊢
  exact bxH_start (fun q h => Or.inr h) ⟨B.exec, B.bytes, hml, findClass_of_methodNamed B.named, fun w h => atoms_spec (ws := wsH_start) B.pre w (List.mem_cons_of_mem _ h)⟩ hN B.returns B.notSynchronized hl9 hnil ko vo σo hko σ  ls hl ⟨hP, hD0.self, va_S.rf, hK⟩ hf

def rmL_isLetter : Room := { frames := 0, cells := 0, slots := 0, locals := 0 }
def mL_isLetter (σ : JS) (x1 : Int32) : Option (Int32) :=
  if x1 < 0 then
  (some (0 : Int32))
  else
  (if (σ 100 3) ≤ x1 then
  (some (0 : Int32))
  else
  (some (1 : Int32)))
set_option maxHeartbeats 4000000 in
set_option maxRecDepth 100000 in
theorem bL_isLetter {p : Program} {l : Launch} {e : Env} {s : State} {m : MethodId} {args : Array Value} {below : List Frame} {meth : Method} {c : Code} {D : va_G} {ca : Nat → ClassId} {ad : Nat → Nat} {A : Nat → Prop} (hA : ∀ q, s.heap.size ≤ q → A q) (S : CallFix p m c cL_isLetter 2 s args jall RL) (hN : xN A s) (hr : meth.sig.returnType = some .boolean) (hlk : meth.locks = false) (out : Int32) (σ : JS) (x1 : Int32) (ls : Array Slot) (hl : lv_has ls 2 [(0, .ref (ad 4)), (1, .int x1)]) (hw : jH D (xT ca) (xC ca ad σ) A s.heap s.heap [] s) (hf : mL_isLetter σ x1 = some out) : W p l e (headSpec wsL_isLetter rmL_isLetter).room s m args below meth c s.heap [] 0 0 (MQ below (jSi out) args s 0 0 (fun _ => False)) (F0 m 0 ls []) := by
  have hx := S.1
  have hb := S.2.1
  unfold mL_isLetter at hf
  refine lv_iload_n (pc := 0) hx hb dL_isLetter_0 rfl (lv_at hl 1 rfl) ?_
  refine lv_if_lt (pc := 1) (tgt := 16) hx hb dL_isLetter_1 (by decide) (fun hc => ?_) (fun hc => ?_)
  · replace hf := jit hf hc
    refine lv_iconst (pc := 16) (v := (0 : Int32)) hx hb dL_isLetter_16 (by decide) ?_
    obtain rfl := jsm hf
    exact j_zpr (pc := 17) S hr hlk (Or.inl rfl) dL_isLetter_17
  · replace hf := jif hf hc
    refine lv_iload_n (pc := 4) hx hb dL_isLetter_4 rfl (lv_at hl 1 rfl) ?_
    refine lv_aload_n (pc := 5) hx hb dL_isLetter_5 rfl (lv_at hl 0 rfl) ?_
    refine j_get (pc := 6) (v := .int (σ 100 3)) S hw inL 4 4 1 xg_4 rfl (by decide) k_134 rfl dL_isLetter_6 ?_
    refine lv_icmp_ge (pc := 9) (tgt := 16) hx hb dL_isLetter_9 (by decide) (fun hc => ?_) (fun hc => ?_)
    · replace hf := jit hf hc
      refine lv_iconst (pc := 16) (v := (0 : Int32)) hx hb dL_isLetter_16 (by decide) ?_
      obtain rfl := jsm hf
      exact j_zpr (pc := 17) S hr hlk (Or.inl rfl) dL_isLetter_17
    · replace hf := jif hf hc
      refine lv_iconst (pc := 12) (v := (1 : Int32)) hx hb dL_isLetter_12 (by decide) ?_
      refine lv_goto (pc := 13) (tgt := 17) hx hb dL_isLetter_13 (by decide) ?_
      obtain rfl := jsm hf
      exact j_zpr (pc := 17) S hr hlk (Or.inr rfl) dL_isLetter_17
set_option maxHeartbeats 4000000 in
set_option maxRecDepth 100000 in
theorem kL_isLetter (l : Launch) (D : va_G) (ca : Nat → ClassId) (ad : Nat → Nat) (sz : Nat) (σ : JS) (x1 : Int32) (out : Int32) (hf : mL_isLetter σ x1 = some out) : Met l yL_isLetter wsL_isLetter rmL_isLetter (jPre D (xT ca) (xC ca ad σ) (xN (va_A (xC ca ad σ) sz)) sz [.ref (ad 4), .int x1]) (jSi out) 0 0 (fun _ => False) := by
  refine Met.ofW (cc := cL_isLetter) (maxL := 2) (ret := some .boolean) (by decide) rfl ?_
  intro p e s m args below meth c s₁ B hml hv
  obtain ⟨rfl, hsz, hP, hK, hD0, hN⟩ := hv
  subst hsz
  have hl := lv_entry [.ref (ad 4), .int x1] (n := 2) (Nat.le_of_ble_eq_true rfl)
  rw [lg_entry_eq]
  generalize (lg_sl [.ref (ad 4), .int x1] ++ List.replicate (2 - (lg_sl [.ref (ad 4), .int x1]).length) Slot.unset).toArray = ls at hl ⊢
  exact bL_isLetter (fun q h => Or.inr h) ⟨B.exec, B.bytes, hml, findClass_of_methodNamed B.named, fun w h => atoms_spec (ws := wsL_isLetter) B.pre w (List.mem_cons_of_mem _ h)⟩ hN B.returns B.notSynchronized out σ x1 ls hl ⟨hP, hD0.self, va_S.rf, hK⟩ hf

def rmL_take : Room := { frames := 1, cells := 0, slots := 0, locals := 20 }
def mL_take (σ : JS) (x1 : Int32) : Option (Int32 × JS) :=
  jrd σ 23 16 x1 fun v1 =>
  jst (jw2 σ 100 3 ((σ 100 3) - (1 : Int32))) fun σ4 =>
  jcp σ4 23 16 23 16 (x1 + (1 : Int32)) x1 ((σ4 100 3) - x1) fun σ6 =>
  some (v1, σ6)
set_option maxHeartbeats 4000000 in
set_option maxRecDepth 100000 in
theorem bL_take {p : Program} {l : Launch} {e : Env} {s : State} {m : MethodId} {args : Array Value} {below : List Frame} {meth : Method} {c : Code} {D : va_G} {ca : Nat → ClassId} {ad : Nat → Nat} {A : Nat → Prop} (hA : ∀ q, s.heap.size ≤ q → A q) (S : CallFix p m c cL_take 3 s args jall RL) (hN : xN A s) (hr : meth.sig.returnType = some .int) (hlk : meth.locks = false) (out : Int32 × JS) (σ : JS) (x1 : Int32) (ls : Array Slot) (hl : lv_has ls 3 [(0, .ref (ad 4)), (1, .int x1)]) (hw : jH D (xT ca) (xC ca ad σ) A s.heap s.heap [] s) (hf : mL_take σ x1 = some out) : W p l e (headSpec wsL_take rmL_take).room s m args below meth c s.heap [] 0 0 (MQ below (jQi D (xT ca) (xC ca ad) A out.1 out.2) args s 0 0 A) (F0 m 0 ls []) := by
  have hx := S.1
  have hb := S.2.1
  unfold mL_take at hf
  refine lv_aload_n (pc := 0) hx hb dL_take_0 rfl (lv_at hl 0 rfl) ?_
  refine j_get (pc := 1) (v := .ref (ad 23)) S hw inL 4 4 0 xg_4 rfl (by decide) k_132 rfl dL_take_1 ?_
  refine lv_iload_n (pc := 4) hx hb dL_take_4 rfl (lv_at hl 1 rfl) ?_
  have hg := jrd_e hf; clear hf; obtain ⟨h2, v1, e3, hf⟩ := hg
  refine j_iald (pc := 5) S hw 23 17 xg_23 xt_23 h2 e3 dL_take_5 ?_
  refine lv_istore_n (pc := 6) (lv' := [(2, .int v1), (0, .ref (ad 4)), (1, .int x1)]) hx hb dL_take_6 rfl hl (by decide) rfl (fun ls hl => ?_)
  refine lv_aload_n (pc := 7) hx hb dL_take_7 rfl (lv_at hl 1 rfl) ?_
  refine lv_dup (pc := 8) hx hb dL_take_8 rfl ?_
  refine j_get (pc := 9) (v := .int (σ 100 3)) S hw inL 4 4 1 xg_4 rfl (by decide) k_134 rfl dL_take_9 ?_
  refine lv_iconst (pc := 12) (v := (1 : Int32)) hx hb dL_take_12 (by decide) ?_
  refine lv_isub (pc := 13) hx hb dL_take_13 ?_
  have hg := jst_e hf; clear hf; obtain ⟨σ4, e5, hf⟩ := hg
  refine j_put (pc := 14) (v := .int ((σ 100 3) - (1 : Int32))) (ws' := xC ca ad σ4) S hw inL tyL tyL_ok nmL 4 4 1 xg_4 rfl (by decide) k_134 rfl rfl rfl (Nat.le_of_ble_eq_true rfl) (by rw [e5]; exact xp_3) dL_take_14 (fun H locs hw => ?_)
  refine lv_aload_n (pc := 17) hx hb dL_take_17 rfl (lv_at hl 1 rfl) ?_
  refine j_get (pc := 18) (v := .ref (ad 23)) S hw inL 4 4 0 xg_4 rfl (by decide) k_132 rfl dL_take_18 ?_
  refine lv_iload_n (pc := 21) hx hb dL_take_21 rfl (lv_at hl 2 rfl) ?_
  refine lv_iconst (pc := 22) (v := (1 : Int32)) hx hb dL_take_22 (by decide) ?_
  refine lv_iadd (pc := 23) hx hb dL_take_23 ?_
  refine lv_aload_n (pc := 24) hx hb dL_take_24 rfl (lv_at hl 1 rfl) ?_
  refine j_get (pc := 25) (v := .ref (ad 23)) S hw inL 4 4 0 xg_4 rfl (by decide) k_132 rfl dL_take_25 ?_
  refine lv_iload_n (pc := 28) hx hb dL_take_28 rfl (lv_at hl 2 rfl) ?_
  refine lv_aload_n (pc := 29) hx hb dL_take_29 rfl (lv_at hl 1 rfl) ?_
  refine j_get (pc := 30) (v := .int (σ4 100 3)) S hw inL 4 4 1 xg_4 rfl (by decide) k_134 rfl dL_take_30 ?_
  refine lv_iload_n (pc := 33) hx hb dL_take_33 rfl (lv_at hl 2 rfl) ?_
  refine lv_isub (pc := 34) hx hb dL_take_34 ?_
  have hg := jcp_e hf; clear hf; obtain ⟨h8, h9, h10, h11, h12, σ6, e7, hf⟩ := hg
  refine j_copyi (pc := 35) (rest := []) (ws' := xC ca ad σ6) S hw hl.1 k_574 k_416 k_415 k_14 23 23 17 17 xg_23 xg_23 xt_23 xt_23 h8 h9 h10 h11 h12 (by rw [e7]; exact xa_23) (Nat.le_of_ble_eq_true rfl) (Nat.le_of_ble_eq_true rfl) dL_take_35 (fun H locs hw => ?_)
  refine lv_iload_n (pc := 38) hx hb dL_take_38 rfl (lv_at hl 0 rfl) ?_
  obtain rfl := jsm hf
  exact j_iret (pc := 39) S hw hr hlk dL_take_39
set_option maxHeartbeats 4000000 in
set_option maxRecDepth 100000 in
theorem kL_take (l : Launch) (D : va_G) (ca : Nat → ClassId) (ad : Nat → Nat) (sz : Nat) (σ : JS) (x1 : Int32) (out : Int32 × JS) (hf : mL_take σ x1 = some out) : Met l yL_take wsL_take rmL_take (jPre D (xT ca) (xC ca ad σ) (xN (va_A (xC ca ad σ) sz)) sz [.ref (ad 4), .int x1]) (jQi D (xT ca) (xC ca ad) (va_A (xC ca ad σ) sz) out.1 out.2) 0 0 (va_A (xC ca ad σ) sz) := by
  refine Met.ofW (cc := cL_take) (maxL := 3) (ret := some .int) (by decide) rfl ?_
  intro p e s m args below meth c s₁ B hml hv
  obtain ⟨rfl, hsz, hP, hK, hD0, hN⟩ := hv
  subst hsz
  have hl := lv_entry [.ref (ad 4), .int x1] (n := 3) (Nat.le_of_ble_eq_true rfl)
  rw [lg_entry_eq]
  generalize (lg_sl [.ref (ad 4), .int x1] ++ List.replicate (3 - (lg_sl [.ref (ad 4), .int x1]).length) Slot.unset).toArray = ls at hl ⊢
  exact bL_take (fun q h => Or.inr h) ⟨B.exec, B.bytes, hml, findClass_of_methodNamed B.named, fun w h => atoms_spec (ws := wsL_take) B.pre w (List.mem_cons_of_mem _ h)⟩ hN B.returns B.notSynchronized out σ x1 ls hl ⟨hP, hD0.self, va_S.rf, hK⟩ hf

def rmR_receive : Room := { frames := 0, cells := 0, slots := 0, locals := 0 }
def mR_receive_L15  : Nat → JS → Option (JS)
  | 0, _ => none
  | n + 1, σ =>
    if (120 : Int32) ≤ (σ 100 4) then
    (some σ)
    else
    (jrd σ 25 121 ((σ 100 4) + (1 : Int32)) fun v4 =>
    if v4 = 0 then
    (some σ)
    else
    (jst (jw2 σ 100 4 ((σ 100 4) + (1 : Int32))) fun σ7 =>
    jrd σ7 6 121 (σ7 100 4) fun v9 =>
    if v9 = (1 : Int32) then
    (jrd σ7 8 121 (σ7 100 4) fun v12 =>
    jrd σ7 10 121 (σ7 100 4) fun v15 =>
    jwr σ7 24 24 v12 v15 fun σ18 =>
    mR_receive_L15  n σ18)
    else
    (mR_receive_L15  n σ7)))
def mR_receive (σ : JS) (x1 : Int32) : Option (JS) :=
  if (σ 100 5) = 0 then
  (jwr σ 25 121 x1 (1 : Int32) fun σ1 =>
  mR_receive_L15  999 σ1)
  else
  (some σ)
set_option maxHeartbeats 4000000 in
set_option maxRecDepth 100000 in
theorem wmR_receive_L15g {p : Program} {l : Launch} {e : Env} {s : State} {m : MethodId} {args : Array Value} {below : List Frame} {meth : Method} {c : Code} {D : va_G} {ca : Nat → ClassId} {ad : Nat → Nat} {A : Nat → Prop} (hA : ∀ q, s.heap.size ≤ q → A q) (S : CallFix p m c cR_receive 3 s args jall RR) (hN : xN A s) (hr : meth.sig.returnType = none) (hlk : meth.locks = false) (out : JS)  : ∀ (n : Nat) (σ : JS) (ls : Array Slot) (H : Heap) (locs : List Loc), lv_has ls 3 [(0, .ref (ad 5)), (2, .ref (ad 1))] → jH D (xT ca) (xC ca ad σ) A s.heap H locs s → mR_receive_L15  n σ = some out → W p l e (headSpec wsR_receive rmR_receive).room s m args below meth c H locs 0 0 (MQ below (jQv D (xT ca) (xC ca ad) A out) args s 0 0 A) (F0 m 15 ls []) := by
  have hx := S.1
  have hb := S.2.1
  intro n
  induction n with
  | zero => intro σ ls H locs hl hw hf; cases hf
  | succ n ih =>
    intro σ ls H locs hl hw hf
    rw [mR_receive_L15] at hf
    refine lv_aload_n (pc := 15) hx hb dR_receive_15 rfl (lv_at hl 0 rfl) ?_
    refine j_get (pc := 16) (v := .int (σ 100 4)) S hw inR 5 5 2 xg_5 rfl (by decide) k_150 rfl dR_receive_16 ?_
    refine lv_bipush (pc := 19) (v := (120 : Int32)) hx hb dR_receive_19 (by decide) ?_
    refine lv_icmp_ge (pc := 21) (tgt := 87) hx hb dR_receive_21 (by decide) (fun hc => ?_) (fun hc => ?_)
    · replace hf := jit hf hc
      obtain rfl := jsm hf
      exact j_vret (pc := 87) S hw hr hlk dR_receive_87
    · replace hf := jif hf hc
      refine lv_aload_n (pc := 24) hx hb dR_receive_24 rfl (lv_at hl 0 rfl) ?_
      refine j_get (pc := 25) (v := .ref (ad 25)) S hw inR 5 5 1 xg_5 rfl (by decide) k_149 rfl dR_receive_25 ?_
      refine lv_aload_n (pc := 28) hx hb dR_receive_28 rfl (lv_at hl 0 rfl) ?_
      refine j_get (pc := 29) (v := .int (σ 100 4)) S hw inR 5 5 2 xg_5 rfl (by decide) k_150 rfl dR_receive_29 ?_
      refine lv_iconst (pc := 32) (v := (1 : Int32)) hx hb dR_receive_32 (by decide) ?_
      refine lv_iadd (pc := 33) hx hb dR_receive_33 ?_
      have hg := jrd_e hf; clear hf; obtain ⟨h5, v4, e6, hf⟩ := hg
      refine j_zald (pc := 34) S hw 25 19 xg_25 xt_25 h5 e6 dR_receive_34 ?_
      refine lv_if_eq (pc := 35) (tgt := 87) hx hb dR_receive_35 (by decide) (fun hc => ?_) (fun hc => ?_)
      · replace hf := jit hf hc
        obtain rfl := jsm hf
        exact j_vret (pc := 87) S hw hr hlk dR_receive_87
      · replace hf := jif hf hc
        refine lv_aload_n (pc := 38) hx hb dR_receive_38 rfl (lv_at hl 0 rfl) ?_
        refine lv_dup (pc := 39) hx hb dR_receive_39 rfl ?_
        refine j_get (pc := 40) (v := .int (σ 100 4)) S hw inR 5 5 2 xg_5 rfl (by decide) k_150 rfl dR_receive_40 ?_
        refine lv_iconst (pc := 43) (v := (1 : Int32)) hx hb dR_receive_43 (by decide) ?_
        refine lv_iadd (pc := 44) hx hb dR_receive_44 ?_
        have hg := jst_e hf; clear hf; obtain ⟨σ7, e8, hf⟩ := hg
        refine j_put (pc := 45) (v := .int ((σ 100 4) + (1 : Int32))) (ws' := xC ca ad σ7) S hw inR tyR tyR_ok nmR 5 5 2 xg_5 rfl (by decide) k_150 rfl rfl rfl (Nat.le_of_ble_eq_true rfl) (by rw [e8]; exact xp_4) dR_receive_45 (fun H locs hw => ?_)
        refine lv_aload_n (pc := 48) hx hb dR_receive_48 rfl (lv_at hl 1 rfl) ?_
        refine j_get (pc := 49) (v := .ref (ad 6)) S hw inJ 1 1 0 xg_1 rfl (by decide) k_30 rfl dR_receive_49 ?_
        refine lv_aload_n (pc := 52) hx hb dR_receive_52 rfl (lv_at hl 0 rfl) ?_
        refine j_get (pc := 53) (v := .int (σ7 100 4)) S hw inR 5 5 2 xg_5 rfl (by decide) k_150 rfl dR_receive_53 ?_
        have hg := jrd_e hf; clear hf; obtain ⟨h10, v9, e11, hf⟩ := hg
        refine j_iald (pc := 56) S hw 6 0 xg_6 xt_6 h10 e11 dR_receive_56 ?_
        refine lv_iconst (pc := 57) (v := (1 : Int32)) hx hb dR_receive_57 (by decide) ?_
        refine lv_icmp_ne (pc := 58) (tgt := 15) hx hb dR_receive_58 (by decide) (fun hc => ?_) (fun hc => ?_)
        · replace hf := jif hf hc
          exact ih σ7 _ _ _ (lv_sub hl [0, 1] rfl) hw hf
        · replace hf := jit hf hc
          refine lv_aload_n (pc := 61) hx hb dR_receive_61 rfl (lv_at hl 0 rfl) ?_
          refine j_get (pc := 62) (v := .ref (ad 24)) S hw inR 5 5 0 xg_5 rfl (by decide) k_147 rfl dR_receive_62 ?_
          refine lv_aload_n (pc := 65) hx hb dR_receive_65 rfl (lv_at hl 1 rfl) ?_
          refine j_get (pc := 66) (v := .ref (ad 8)) S hw inJ 1 1 2 xg_1 rfl (by decide) k_36 rfl dR_receive_66 ?_
          refine lv_aload_n (pc := 69) hx hb dR_receive_69 rfl (lv_at hl 0 rfl) ?_
          refine j_get (pc := 70) (v := .int (σ7 100 4)) S hw inR 5 5 2 xg_5 rfl (by decide) k_150 rfl dR_receive_70 ?_
          have hg := jrd_e hf; clear hf; obtain ⟨h13, v12, e14, hf⟩ := hg
          refine j_iald (pc := 73) S hw 8 2 xg_8 xt_8 h13 e14 dR_receive_73 ?_
          refine lv_aload_n (pc := 74) hx hb dR_receive_74 rfl (lv_at hl 1 rfl) ?_
          refine j_get (pc := 75) (v := .ref (ad 10)) S hw inJ 1 1 4 xg_1 rfl (by decide) k_42 rfl dR_receive_75 ?_
          refine lv_aload_n (pc := 78) hx hb dR_receive_78 rfl (lv_at hl 0 rfl) ?_
          refine j_get (pc := 79) (v := .int (σ7 100 4)) S hw inR 5 5 2 xg_5 rfl (by decide) k_150 rfl dR_receive_79 ?_
          have hg := jrd_e hf; clear hf; obtain ⟨h16, v15, e17, hf⟩ := hg
          refine j_iald (pc := 82) S hw 10 4 xg_10 xt_10 h16 e17 dR_receive_82 ?_
          have hg := jwr_e hf; clear hf; obtain ⟨h19, σ18, e20, hf⟩ := hg
          refine j_iast (pc := 83) (ws' := xC ca ad σ18) S hw 24 18 xg_24 xt_24 h19 (by rw [e20]; exact xs_24) dR_receive_83 (fun H locs hw => ?_)
          refine lv_goto (pc := 84) (tgt := 15) hx hb dR_receive_84 (by decide) ?_
          exact ih σ18 _ _ _ (lv_sub hl [0, 1] rfl) hw hf
set_option maxHeartbeats 4000000 in
set_option maxRecDepth 100000 in
theorem bR_receive {p : Program} {l : Launch} {e : Env} {s : State} {m : MethodId} {args : Array Value} {below : List Frame} {meth : Method} {c : Code} {D : va_G} {ca : Nat → ClassId} {ad : Nat → Nat} {A : Nat → Prop} (hA : ∀ q, s.heap.size ≤ q → A q) (S : CallFix p m c cR_receive 3 s args jall RR) (hN : xN A s) (hr : meth.sig.returnType = none) (hlk : meth.locks = false) (out : JS) (σ : JS) (x1 : Int32) (ls : Array Slot) (hl : lv_has ls 3 [(0, .ref (ad 5)), (1, .int x1), (2, .ref (ad 1))]) (hw : jH D (xT ca) (xC ca ad σ) A s.heap s.heap [] s) (hf : mR_receive σ x1 = some out) : W p l e (headSpec wsR_receive rmR_receive).room s m args below meth c s.heap [] 0 0 (MQ below (jQv D (xT ca) (xC ca ad) A out) args s 0 0 A) (F0 m 0 ls []) := by
  have hx := S.1
  have hb := S.2.1
  unfold mR_receive at hf
  refine lv_aload_n (pc := 0) hx hb dR_receive_0 rfl (lv_at hl 0 rfl) ?_
  refine j_get (pc := 1) (v := .int (σ 100 5)) S hw inR 5 5 3 xg_5 rfl (by decide) k_152 rfl dR_receive_1 ?_
  refine lv_if_eq (pc := 4) (tgt := 8) hx hb dR_receive_4 (by decide) (fun hc => ?_) (fun hc => ?_)
  · replace hf := jit hf hc
    refine lv_aload_n (pc := 8) hx hb dR_receive_8 rfl (lv_at hl 0 rfl) ?_
    refine j_get (pc := 9) (v := .ref (ad 25)) S hw inR 5 5 1 xg_5 rfl (by decide) k_149 rfl dR_receive_9 ?_
    refine lv_iload_n (pc := 12) hx hb dR_receive_12 rfl (lv_at hl 1 rfl) ?_
    refine lv_iconst (pc := 13) (v := (1 : Int32)) hx hb dR_receive_13 (by decide) ?_
    have hg := jwr_e hf; clear hf; obtain ⟨h2, σ1, e3, hf⟩ := hg
    refine j_zast (pc := 14) (ws' := xC ca ad σ1) S hw 25 19 xg_25 xt_25 h2 rfl (by rw [e3]; exact xs_25) dR_receive_14 (fun H locs hw => ?_)
    exact wmR_receive_L15g hA S hN hr hlk out  999 σ1 _ _ _ (lv_sub hl [0, 2] rfl) hw hf
  · replace hf := jif hf hc
    obtain rfl := jsm hf
    exact j_vret (pc := 7) S hw hr hlk dR_receive_7
set_option maxHeartbeats 4000000 in
set_option maxRecDepth 100000 in
theorem kR_receive (l : Launch) (D : va_G) (ca : Nat → ClassId) (ad : Nat → Nat) (sz : Nat) (σ : JS) (x1 : Int32) (out : JS) (hf : mR_receive σ x1 = some out) : Met l yR_receive wsR_receive rmR_receive (jPre D (xT ca) (xC ca ad σ) (xN (va_A (xC ca ad σ) sz)) sz [.ref (ad 5), .int x1, .ref (ad 1)]) (jQv D (xT ca) (xC ca ad) (va_A (xC ca ad σ) sz) out) 0 0 (va_A (xC ca ad σ) sz) := by
  refine Met.ofW (cc := cR_receive) (maxL := 3) (ret := none) (by decide) rfl ?_
  intro p e s m args below meth c s₁ B hml hv
  obtain ⟨rfl, hsz, hP, hK, hD0, hN⟩ := hv
  subst hsz
  have hl := lv_entry [.ref (ad 5), .int x1, .ref (ad 1)] (n := 3) (Nat.le_of_ble_eq_true rfl)
  rw [lg_entry_eq]
  generalize (lg_sl [.ref (ad 5), .int x1, .ref (ad 1)] ++ List.replicate (3 - (lg_sl [.ref (ad 5), .int x1, .ref (ad 1)]).length) Slot.unset).toArray = ls at hl ⊢
  exact bR_receive (fun q h => Or.inr h) ⟨B.exec, B.bytes, hml, findClass_of_methodNamed B.named, fun w h => atoms_spec (ws := wsR_receive) B.pre w (List.mem_cons_of_mem _ h)⟩ hN B.returns B.notSynchronized out σ x1 ls hl ⟨hP, hD0.self, va_S.rf, hK⟩ hf

def rmL_put : Room := { frames := 0, cells := 0, slots := 0, locals := 0 }
def mL_put (σ : JS) (x1 : Int32) : Option (JS) :=
  jwr σ 23 16 (σ 100 3) x1 fun σ1 =>
  jst (jw2 σ1 100 3 ((σ1 100 3) + (1 : Int32))) fun σ4 =>
  some σ4
set_option maxHeartbeats 4000000 in
set_option maxRecDepth 100000 in
theorem bL_put {p : Program} {l : Launch} {e : Env} {s : State} {m : MethodId} {args : Array Value} {below : List Frame} {meth : Method} {c : Code} {D : va_G} {ca : Nat → ClassId} {ad : Nat → Nat} {A : Nat → Prop} (hA : ∀ q, s.heap.size ≤ q → A q) (S : CallFix p m c cL_put 2 s args jall RL) (hN : xN A s) (hr : meth.sig.returnType = none) (hlk : meth.locks = false) (out : JS) (σ : JS) (x1 : Int32) (ls : Array Slot) (hl : lv_has ls 2 [(0, .ref (ad 4)), (1, .int x1)]) (hw : jH D (xT ca) (xC ca ad σ) A s.heap s.heap [] s) (hf : mL_put σ x1 = some out) : W p l e (headSpec wsL_put rmL_put).room s m args below meth c s.heap [] 0 0 (MQ below (jQv D (xT ca) (xC ca ad) A out) args s 0 0 A) (F0 m 0 ls []) := by
  have hx := S.1
  have hb := S.2.1
  unfold mL_put at hf
  refine lv_aload_n (pc := 0) hx hb dL_put_0 rfl (lv_at hl 0 rfl) ?_
  refine j_get (pc := 1) (v := .ref (ad 23)) S hw inL 4 4 0 xg_4 rfl (by decide) k_132 rfl dL_put_1 ?_
  refine lv_aload_n (pc := 4) hx hb dL_put_4 rfl (lv_at hl 0 rfl) ?_
  refine j_get (pc := 5) (v := .int (σ 100 3)) S hw inL 4 4 1 xg_4 rfl (by decide) k_134 rfl dL_put_5 ?_
  refine lv_iload_n (pc := 8) hx hb dL_put_8 rfl (lv_at hl 1 rfl) ?_
  have hg := jwr_e hf; clear hf; obtain ⟨h2, σ1, e3, hf⟩ := hg
  refine j_iast (pc := 9) (ws' := xC ca ad σ1) S hw 23 17 xg_23 xt_23 h2 (by rw [e3]; exact xs_23) dL_put_9 (fun H locs hw => ?_)
  refine lv_aload_n (pc := 10) hx hb dL_put_10 rfl (lv_at hl 0 rfl) ?_
  refine lv_dup (pc := 11) hx hb dL_put_11 rfl ?_
  refine j_get (pc := 12) (v := .int (σ1 100 3)) S hw inL 4 4 1 xg_4 rfl (by decide) k_134 rfl dL_put_12 ?_
  refine lv_iconst (pc := 15) (v := (1 : Int32)) hx hb dL_put_15 (by decide) ?_
  refine lv_iadd (pc := 16) hx hb dL_put_16 ?_
  have hg := jst_e hf; clear hf; obtain ⟨σ4, e5, hf⟩ := hg
  refine j_put (pc := 17) (v := .int ((σ1 100 3) + (1 : Int32))) (ws' := xC ca ad σ4) S hw inL tyL tyL_ok nmL 4 4 1 xg_4 rfl (by decide) k_134 rfl rfl rfl (Nat.le_of_ble_eq_true rfl) (by rw [e5]; exact xp_3) dL_put_17 (fun H locs hw => ?_)
  obtain rfl := jsm hf
  exact j_vret (pc := 20) S hw hr hlk dL_put_20
set_option maxHeartbeats 4000000 in
set_option maxRecDepth 100000 in
theorem kL_put (l : Launch) (D : va_G) (ca : Nat → ClassId) (ad : Nat → Nat) (sz : Nat) (σ : JS) (x1 : Int32) (out : JS) (hf : mL_put σ x1 = some out) : Met l yL_put wsL_put rmL_put (jPre D (xT ca) (xC ca ad σ) (xN (va_A (xC ca ad σ) sz)) sz [.ref (ad 4), .int x1]) (jQv D (xT ca) (xC ca ad) (va_A (xC ca ad σ) sz) out) 0 0 (va_A (xC ca ad σ) sz) := by
  refine Met.ofW (cc := cL_put) (maxL := 2) (ret := none) (by decide) rfl ?_
  intro p e s m args below meth c s₁ B hml hv
  obtain ⟨rfl, hsz, hP, hK, hD0, hN⟩ := hv
  subst hsz
  have hl := lv_entry [.ref (ad 4), .int x1] (n := 2) (Nat.le_of_ble_eq_true rfl)
  rw [lg_entry_eq]
  generalize (lg_sl [.ref (ad 4), .int x1] ++ List.replicate (2 - (lg_sl [.ref (ad 4), .int x1]).length) Slot.unset).toArray = ls at hl ⊢
  exact bL_put (fun q h => Or.inr h) ⟨B.exec, B.bytes, hml, findClass_of_methodNamed B.named, fun w h => atoms_spec (ws := wsL_put) B.pre w (List.mem_cons_of_mem _ h)⟩ hN B.returns B.notSynchronized out σ x1 ls hl ⟨hP, hD0.self, va_S.rf, hK⟩ hf

