def rmnH_remove : Room := { frames := 7, cells := 0, slots := 0, locals := 112 }
def rmxH_remove : Room := { frames := 7, cells := 1, slots := 6, locals := 112 }
def mH_remove_L81 (k : JS → Int32 → Option (Nat × Int32 × JS)) (x1 : Int32) (x2 : Int32) (x3 : Int32) (x4 : Int32) : Nat → JS → Int32 → Option (Nat × Int32 × JS)
  | 0, _, _ => none
  | n + 1, σ, x5 =>
    if x5 ≤ x2 then
    (k σ x5)
    else
    (jbn (mJ_isChangeOf σ x1 x5) fun q12 =>
    if q12 = 0 then
    (mH_remove_L81 k x1 x2 x3 x4 n σ (x5 + (-1)))
    else
    (jrd σ 8 121 x5 fun v14 =>
    jbn (mH_recordOf σ v14) fun q17 =>
    jrd σ 9 121 x5 fun v19 =>
    jwr σ 29 8 q17 v19 fun σ22 =>
    mH_remove_L81 k x1 x2 x3 x4 n σ22 (x5 + (-1))))
def mH_remove_J59 (σ : JS) (x1 : Int32) (x2 : Int32) (y0 : Int32) : Option (Nat × Int32 × JS) :=
  jbn (mH_wantWhatIs σ x1) fun q8 =>
  jbn (mH_numberToRemoveFrom q8 x1) fun q10 =>
  mH_remove_L81 (fun σ25 z26 =>
  jbn (mH_bringToWanted σ25 x1 x2) fun q27 =>
  if q27.1 = 0 then
  (if y0 = 0 then
  (some (0, q27.2.1, q27.2.2))
  else
  (jwr q27.2.2 28 3 x1 ((σ 100 0) + (1 : Int32)) fun σ29 =>
  some (0, q27.2.1, σ29)))
  else
  (some (q27.1, 0, q27.2.2))) x1 x2 y0 (σ 100 0) 999 q8 q10
def mH_remove (σ : JS) (x1 : Int32) (x2 : Int32) : Option (Nat × Int32 × JS) :=
  jbn (mH_isFile σ x1) fun q1 =>
  if q1 = 0 then
  (some (1, 0, σ))
  else
  (if 0 ≤ x2 then
  (if (σ 100 8) = 0 then
  (some (2, 0, σ))
  else
  (jbn (mH_canRemove σ x1 x2) fun q3 =>
  if q3 = 0 then
  (some (2, 0, σ))
  else
  (jrd σ 27 3 x1 fun v5 =>
  if v5 = (-1 : Int32) then
  (mH_remove_J59 σ x1 x2 (1 : Int32))
  else
  (mH_remove_J59 σ x1 x2 (0 : Int32)))))
  else
  (some (1, 0, σ)))
set_option maxHeartbeats 4000000 in
set_option maxRecDepth 100000 in
theorem wnmH_remove_L81g {p : Program} {l : Launch} {e : Env} {s : State} {m : MethodId} {args : Array Value} {below : List Frame} {meth : Method} {c : Code} {D : va_G} {ca : Nat → ClassId} {ad : Nat → Nat} {A : Nat → Prop} (hA : ∀ q, s.heap.size ≤ q → A q) (S : CallFix p m c cH_remove 6 s args jall RH) (hN : xN A s) (hr : meth.sig.returnType = some .int) (hlk : meth.locks = false) (vo : Int32) (σo : JS) (k : JS → Int32 → Option (Nat × Int32 × JS)) (x1 : Int32) (x2 : Int32) (x3 : Int32) (x4 : Int32) (hk : ∀ (σ : JS) (x5 : Int32) (ls : Array Slot) (H : Heap) (locs : List Loc), lv_has ls 6 [(0, .ref (ad 0)), (1, .int x1), (2, .int x2), (3, .int x3), (4, .int x4), (5, .int x5)] → jH D (xT ca) (xC ca ad σ) A s.heap H locs s → k σ x5 = some (0, vo, σo) → W p l e (headSpec wsH_remove rmnH_remove).room s m args below meth c H locs 0 0 (MQ below (jQi D (xT ca) (xC ca ad) A vo σo) args s 0 0 A) (F0 m 134 ls [])) : ∀ (n : Nat) (σ : JS) (x5 : Int32) (ls : Array Slot) (H : Heap) (locs : List Loc), lv_has ls 6 [(0, .ref (ad 0)), (1, .int x1), (2, .int x2), (3, .int x3), (4, .int x4), (5, .int x5)] → jH D (xT ca) (xC ca ad σ) A s.heap H locs s → mH_remove_L81 k x1 x2 x3 x4 n σ x5 = some (0, vo, σo) → W p l e (headSpec wsH_remove rmnH_remove).room s m args below meth c H locs 0 0 (MQ below (jQi D (xT ca) (xC ca ad) A vo σo) args s 0 0 A) (F0 m 81 ls []) := by
  have hx := S.1
  have hb := S.2.1
  intro n
  induction n with
  | zero => intro σ x5 ls H locs hl hw hf; cases hf
  | succ n ih =>
    intro σ x5 ls H locs hl hw hf
    rw [mH_remove_L81] at hf
    refine lv_iload (pc := 81) hx hb dH_remove_81 (lv_at hl 5 rfl) ?_
    refine lv_iload_n (pc := 83) hx hb dH_remove_83 rfl (lv_at hl 2 rfl) ?_
    refine lv_icmp_le (pc := 84) (tgt := 134) hx hb dH_remove_84 (by decide) (fun hc => ?_) (fun hc => ?_)
    · replace hf := jit hf hc
      exact hk σ x5 _ _ _ (lv_sub hl [0, 1, 2, 3, 4, 5] rfl) hw hf
    · replace hf := jif hf hc
      refine lv_aload_n (pc := 87) hx hb dH_remove_87 rfl (lv_at hl 0 rfl) ?_
      refine j_get (pc := 88) (v := .ref (ad 1)) S hw inH 0 0 0 xg_0 rfl (by decide) k_162 rfl dH_remove_88 ?_
      refine lv_iload_n (pc := 91) hx hb dH_remove_91 rfl (lv_at hl 1 rfl) ?_
      refine lv_iload (pc := 92) hx hb dH_remove_92 (lv_at hl 5 rfl) ?_
      have hg := jbn_e hf; clear hf; obtain ⟨q12, h13, hf⟩ := hg
      refine j_cpi (pc := 94) (v := q12) (va_runV (As := [.int x1, .int x5]) (rest := []) S (kJ_isChangeOf l D ca ad _ σ x1 x5 q12 h13) (cwV 2 S.2.2.2.2 (jgV k_499 k_491 k_492 k_2 k_493) rfl rfl rfl (by decide +kernel) ⟨Nat.le_of_ble_eq_true rfl, Nat.le_of_ble_eq_true rfl⟩) (j_preV (As := [.int x1, .int x5]) hw xN_b (xN_to hN hw hA) rfl xg_1) rfl rfl hl.1 rfl (lv_room (Nat.le_of_ble_eq_true rfl)) dH_remove_94 ⟨Nat.le_of_ble_eq_true rfl, Nat.le_of_ble_eq_true rfl⟩) ?_
      refine lv_if_eq (pc := 97) (tgt := 128) hx hb dH_remove_97 (by decide) (fun hc => ?_) (fun hc => ?_)
      · replace hf := jit hf hc
        refine lv_iinc (pc := 128) (v := (x5 + (-1))) (k := 5) (lv' := [(5, .int (x5 + (-1))), (0, .ref (ad 0)), (1, .int x1), (2, .int x2), (3, .int x3), (4, .int x4)]) hx hb dH_remove_128 hl rfl (j_inc _ (by decide)) (by decide) rfl (fun ls hl => ?_)
        refine lv_goto (pc := 131) (tgt := 81) hx hb dH_remove_131 (by decide) ?_
        exact ih σ (x5 + (-1)) _ _ _ (lv_sub hl [1, 2, 3, 4, 5, 0] rfl) hw hf
      · replace hf := jif hf hc
        refine lv_aload_n (pc := 100) hx hb dH_remove_100 rfl (lv_at hl 0 rfl) ?_
        refine j_get (pc := 101) (v := .ref (ad 29)) S hw inH 0 0 8 xg_0 rfl (by decide) k_170 rfl dH_remove_101 ?_
        refine lv_aload_n (pc := 104) hx hb dH_remove_104 rfl (lv_at hl 0 rfl) ?_
        refine j_get (pc := 105) (v := .ref (ad 1)) S hw inH 0 0 0 xg_0 rfl (by decide) k_162 rfl dH_remove_105 ?_
        refine j_get (pc := 108) (v := .ref (ad 8)) S hw inJ 1 1 2 xg_1 rfl (by decide) k_37 rfl dH_remove_108 ?_
        refine lv_iload (pc := 111) hx hb dH_remove_111 (lv_at hl 5 rfl) ?_
        have hg := jrd_e hf; clear hf; obtain ⟨h15, v14, e16, hf⟩ := hg
        refine j_iald (pc := 113) S hw 8 2 xg_8 xt_8 h15 e16 dH_remove_113 ?_
        have hg := jbn_e hf; clear hf; obtain ⟨q17, h18, hf⟩ := hg
        refine j_cpi (pc := 114) (v := q17) (va_runS (As := [.int v14]) (rest := [.ref (ad 29)]) S (kH_recordOf l D ca ad _ σ v14 q17 h18) (cwS 1 S.2.2.2.2 (jgS k_254 k_255 k_1 k_256) rfl rfl rfl (by decide +kernel) ⟨Nat.le_of_ble_eq_true rfl, Nat.le_of_ble_eq_true rfl⟩) (j_preS hw xN_b (xN_to hN hw hA)) rfl rfl hl.1 rfl (lv_room (Nat.le_of_ble_eq_true rfl)) dH_remove_114 ⟨Nat.le_of_ble_eq_true rfl, Nat.le_of_ble_eq_true rfl⟩) ?_
        refine lv_aload_n (pc := 117) hx hb dH_remove_117 rfl (lv_at hl 0 rfl) ?_
        refine j_get (pc := 118) (v := .ref (ad 1)) S hw inH 0 0 0 xg_0 rfl (by decide) k_162 rfl dH_remove_118 ?_
        refine j_get (pc := 121) (v := .ref (ad 9)) S hw inJ 1 1 3 xg_1 rfl (by decide) k_40 rfl dH_remove_121 ?_
        refine lv_iload (pc := 124) hx hb dH_remove_124 (lv_at hl 5 rfl) ?_
        have hg := jrd_e hf; clear hf; obtain ⟨h20, v19, e21, hf⟩ := hg
        refine j_iald (pc := 126) S hw 9 3 xg_9 xt_9 h20 e21 dH_remove_126 ?_
        have hg := jwr_e hf; clear hf; obtain ⟨h23, σ22, e24, hf⟩ := hg
        refine j_iast (pc := 127) (ws' := xC ca ad σ22) S hw 29 23 xg_29 xt_29 h23 (by rw [e24]; exact xs_29) dH_remove_127 (fun H locs hw => ?_)
        refine lv_iinc (pc := 128) (v := (x5 + (-1))) (k := 5) (lv' := [(5, .int (x5 + (-1))), (0, .ref (ad 0)), (1, .int x1), (2, .int x2), (3, .int x3), (4, .int x4)]) hx hb dH_remove_128 hl rfl (j_inc _ (by decide)) (by decide) rfl (fun ls hl => ?_)
        refine lv_goto (pc := 131) (tgt := 81) hx hb dH_remove_131 (by decide) ?_
        exact ih σ22 (x5 + (-1)) _ _ _ (lv_sub hl [1, 2, 3, 4, 5, 0] rfl) hw hf
set_option maxHeartbeats 4000000 in
set_option maxRecDepth 100000 in
theorem wnmH_remove_J59 {p : Program} {l : Launch} {e : Env} {s : State} {m : MethodId} {args : Array Value} {below : List Frame} {meth : Method} {c : Code} {D : va_G} {ca : Nat → ClassId} {ad : Nat → Nat} {A : Nat → Prop} (hA : ∀ q, s.heap.size ≤ q → A q) (S : CallFix p m c cH_remove 6 s args jall RH) (hN : xN A s) (hr : meth.sig.returnType = some .int) (hlk : meth.locks = false) (vo : Int32) (σo : JS) (σ : JS) (x1 : Int32) (x2 : Int32) (y0 : Int32) (ls : Array Slot) (hl : lv_has ls 6 [(0, .ref (ad 0)), (1, .int x1), (2, .int x2)]) (hw : jH D (xT ca) (xC ca ad σ) A s.heap s.heap [] s) (hf : mH_remove_J59 σ x1 x2 y0 = some (0, vo, σo)) : W p l e (headSpec wsH_remove rmnH_remove).room s m args below meth c s.heap [] 0 0 (MQ below (jQi D (xT ca) (xC ca ad) A vo σo) args s 0 0 A) (F0 m 59 ls [.int y0]) := by
  have hx := S.1
  have hb := S.2.1
  unfold mH_remove_J59 at hf
  refine lv_istore_n (pc := 59) (lv' := [(3, .int y0), (0, .ref (ad 0)), (1, .int x1), (2, .int x2)]) hx hb dH_remove_59 rfl hl (by decide) rfl (fun ls hl => ?_)
  refine lv_aload_n (pc := 60) hx hb dH_remove_60 rfl (lv_at hl 1 rfl) ?_
  refine j_get (pc := 61) (v := .ref (ad 1)) S hw inH 0 0 0 xg_0 rfl (by decide) k_162 rfl dH_remove_61 ?_
  refine j_get (pc := 64) (v := .int (σ 100 0)) S hw inJ 1 1 9 xg_1 rfl (by decide) k_50 rfl dH_remove_64 ?_
  refine lv_istore (pc := 67) (lv' := [(4, .int (σ 100 0)), (3, .int y0), (0, .ref (ad 0)), (1, .int x1), (2, .int x2)]) hx hb dH_remove_67 hl (by decide) rfl (fun ls hl => ?_)
  refine lv_aload_n (pc := 69) hx hb dH_remove_69 rfl (lv_at hl 2 rfl) ?_
  refine lv_iload_n (pc := 70) hx hb dH_remove_70 rfl (lv_at hl 3 rfl) ?_
  have hg := jbn_e hf; clear hf; obtain ⟨q8, h9, hf⟩ := hg
  refine j_callv (pc := 71) (C := xC ca ad) (σ' := q8) hw hA (va_runV (As := [.int x1]) (rest := []) S (kH_wantWhatIs l D ca ad _ σ x1 q8 h9) (cwV 1 S.2.2.2.2 (jgV k_495 k_497 ks_13 k_1 k_498) rfl rfl rfl (by decide +kernel) ⟨Nat.le_of_ble_eq_true rfl, Nat.le_of_ble_eq_true rfl⟩) (j_preV (As := [.int x1]) hw xN_b (xN_to hN hw hA) rfl xg_0) rfl rfl hl.1 rfl (lv_room (Nat.le_of_ble_eq_true rfl)) dH_remove_71 ⟨Nat.le_of_ble_eq_true rfl, Nat.le_of_ble_eq_true rfl⟩) (fun H locs hw => ?_)
  refine lv_aload_n (pc := 74) hx hb dH_remove_74 rfl (lv_at hl 2 rfl) ?_
  refine lv_iload_n (pc := 75) hx hb dH_remove_75 rfl (lv_at hl 3 rfl) ?_
  have hg := jbn_e hf; clear hf; obtain ⟨q10, h11, hf⟩ := hg
  refine j_cpi (pc := 76) (v := q10) (va_runV (As := [.int x1]) (rest := []) S (kH_numberToRemoveFrom l D ca ad _ q8 x1 q10 h11) (cwV 1 S.2.2.2.2 (jgV k_511 k_513 ks_14 k_1 k_514) rfl rfl rfl (by decide +kernel) ⟨Nat.le_of_ble_eq_true rfl, Nat.le_of_ble_eq_true rfl⟩) (j_preV (As := [.int x1]) hw xN_b (xN_to hN hw hA) rfl xg_0) rfl rfl hl.1 rfl (lv_room (Nat.le_of_ble_eq_true rfl)) dH_remove_76 ⟨Nat.le_of_ble_eq_true rfl, Nat.le_of_ble_eq_true rfl⟩) ?_
  refine lv_istore (pc := 79) (lv' := [(5, .int q10), (4, .int (σ 100 0)), (3, .int y0), (0, .ref (ad 0)), (1, .int x1), (2, .int x2)]) hx hb dH_remove_79 hl (by decide) rfl (fun ls hl => ?_)
  refine wnmH_remove_L81g hA S hN hr hlk vo σo _ x1 x2 y0 (σ 100 0) (fun σ25 z26 ls H locs hl hw hf => ?_) 999 q8 q10 _ _ _ (lv_sub hl [3, 4, 5, 2, 1, 0] rfl) hw hf
  try dsimp only at hf
  refine lv_aload_n (pc := 134) hx hb dH_remove_134 rfl (lv_at hl 0 rfl) ?_
  refine lv_iload_n (pc := 135) hx hb dH_remove_135 rfl (lv_at hl 1 rfl) ?_
  refine lv_iload_n (pc := 136) hx hb dH_remove_136 rfl (lv_at hl 2 rfl) ?_
  have hg := jbn_e hf; clear hf; obtain ⟨q27, h28, hf⟩ := hg
  by_cases hz9 : q27.1 = 0
  · replace hf := jit hf hz9
    refine j_calli (pc := 137) (C := xC ca ad) (σ' := q27.2.2) (v := q27.2.1) hw hA (va_runV (As := [.int x1, .int x2]) (rest := []) S (knH_bringToWanted l D ca ad _ σ25 x1 x2 q27.2.1 q27.2.2 (jq0 h28 hz9)) (cwV 2 S.2.2.2.2 (jgV k_463 k_465 ks_11 k_1 k_466) rfl rfl rfl (by decide +kernel) ⟨Nat.le_of_ble_eq_true rfl, Nat.le_of_ble_eq_true rfl⟩) (j_preV (As := [.int x1, .int x2]) hw xN_b (xN_to hN hw hA) rfl xg_0) rfl rfl hl.1 rfl (lv_room (Nat.le_of_ble_eq_true rfl)) dH_remove_137 ⟨Nat.le_of_ble_eq_true rfl, Nat.le_of_ble_eq_true rfl⟩) (fun H locs hw => ?_)
    refine lv_istore (pc := 140) (lv' := [(5, .int q27.2.1), (0, .ref (ad 0)), (1, .int x1), (2, .int x2), (3, .int y0), (4, .int (σ 100 0))]) hx hb dH_remove_140 hl (by decide) rfl (fun ls hl => ?_)
    refine lv_iload_n (pc := 142) hx hb dH_remove_142 rfl (lv_at hl 4 rfl) ?_
    refine lv_if_eq (pc := 143) (tgt := 156) hx hb dH_remove_143 (by decide) (fun hc => ?_) (fun hc => ?_)
    · replace hf := jit hf hc
      refine lv_iload (pc := 156) hx hb dH_remove_156 (lv_at hl 0 rfl) ?_
      obtain ⟨rfl, rfl⟩ := jo0 hf
      exact j_iret (pc := 158) S hw hr hlk dH_remove_158
    · replace hf := jif hf hc
      refine lv_aload_n (pc := 146) hx hb dH_remove_146 rfl (lv_at hl 1 rfl) ?_
      refine j_get (pc := 147) (v := .ref (ad 28)) S hw inH 0 0 7 xg_0 rfl (by decide) k_169 rfl dH_remove_147 ?_
      refine lv_iload_n (pc := 150) hx hb dH_remove_150 rfl (lv_at hl 2 rfl) ?_
      refine lv_iload (pc := 151) hx hb dH_remove_151 (lv_at hl 5 rfl) ?_
      refine lv_iconst (pc := 153) (v := (1 : Int32)) hx hb dH_remove_153 (by decide) ?_
      refine lv_iadd (pc := 154) hx hb dH_remove_154 ?_
      have hg := jwr_e hf; clear hf; obtain ⟨h30, σ29, e31, hf⟩ := hg
      refine j_iast (pc := 155) (ws' := xC ca ad σ29) S hw 28 22 xg_28 xt_28 h30 (by rw [e31]; exact xs_28) dH_remove_155 (fun H locs hw => ?_)
      refine lv_iload (pc := 156) hx hb dH_remove_156 (lv_at hl 0 rfl) ?_
      obtain ⟨rfl, rfl⟩ := jo0 hf
      exact j_iret (pc := 158) S hw hr hlk dH_remove_158
  · replace hf := jif hf hz9
    exact absurd (jo3 hf) hz9
set_option maxHeartbeats 4000000 in
set_option maxRecDepth 100000 in
theorem bnH_remove {p : Program} {l : Launch} {e : Env} {s : State} {m : MethodId} {args : Array Value} {below : List Frame} {meth : Method} {c : Code} {D : va_G} {ca : Nat → ClassId} {ad : Nat → Nat} {A : Nat → Prop} (hA : ∀ q, s.heap.size ≤ q → A q) (S : CallFix p m c cH_remove 6 s args jall RH) (hN : xN A s) (hr : meth.sig.returnType = some .int) (hlk : meth.locks = false) (vo : Int32) (σo : JS) (σ : JS) (x1 : Int32) (x2 : Int32) (ls : Array Slot) (hl : lv_has ls 6 [(0, .ref (ad 0)), (1, .int x1), (2, .int x2)]) (hw : jH D (xT ca) (xC ca ad σ) A s.heap s.heap [] s) (hf : mH_remove σ x1 x2 = some (0, vo, σo)) : W p l e (headSpec wsH_remove rmnH_remove).room s m args below meth c s.heap [] 0 0 (MQ below (jQi D (xT ca) (xC ca ad) A vo σo) args s 0 0 A) (F0 m 0 ls []) := by
  have hx := S.1
  have hb := S.2.1
  unfold mH_remove at hf
  refine lv_aload_n (pc := 0) hx hb dH_remove_0 rfl (lv_at hl 0 rfl) ?_
  refine lv_iload_n (pc := 1) hx hb dH_remove_1 rfl (lv_at hl 1 rfl) ?_
  have hg := jbn_e hf; clear hf; obtain ⟨q1, h2, hf⟩ := hg
  refine j_cpi (pc := 2) (v := q1) (va_runV (As := [.int x1]) (rest := []) S (kH_isFile l D ca ad _ σ x1 q1 h2) (cwV 1 S.2.2.2.2 (jgV k_207 k_209 ks_0 k_1 k_210) rfl rfl rfl (by decide +kernel) ⟨Nat.le_of_ble_eq_true rfl, Nat.le_of_ble_eq_true rfl⟩) (j_preV (As := [.int x1]) hw xN_b (xN_to hN hw hA) rfl xg_0) rfl rfl hl.1 rfl (lv_room (Nat.le_of_ble_eq_true rfl)) dH_remove_2 ⟨Nat.le_of_ble_eq_true rfl, Nat.le_of_ble_eq_true rfl⟩) ?_
  refine lv_if_eq (pc := 5) (tgt := 12) hx hb dH_remove_5 (by decide) (fun hc => ?_) (fun hc => ?_)
  · replace hf := jit hf hc
    exact (jo2 hf).elim
  · replace hf := jif hf hc
    refine lv_iload_n (pc := 8) hx hb dH_remove_8 rfl (lv_at hl 2 rfl) ?_
    refine lv_if_ge (pc := 9) (tgt := 20) hx hb dH_remove_9 (by decide) (fun hc => ?_) (fun hc => ?_)
    · replace hf := jit hf hc
      refine lv_aload_n (pc := 20) hx hb dH_remove_20 rfl (lv_at hl 0 rfl) ?_
      refine j_get (pc := 21) (v := .int (σ 100 8)) S hw inH 0 0 11 xg_0 rfl (by decide) k_173 rfl dH_remove_21 ?_
      refine lv_if_eq (pc := 24) (tgt := 36) hx hb dH_remove_24 (by decide) (fun hc => ?_) (fun hc => ?_)
      · replace hf := jit hf hc
        exact (jo2 hf).elim
      · replace hf := jif hf hc
        refine lv_aload_n (pc := 27) hx hb dH_remove_27 rfl (lv_at hl 0 rfl) ?_
        refine lv_iload_n (pc := 28) hx hb dH_remove_28 rfl (lv_at hl 1 rfl) ?_
        refine lv_iload_n (pc := 29) hx hb dH_remove_29 rfl (lv_at hl 2 rfl) ?_
        have hg := jbn_e hf; clear hf; obtain ⟨q3, h4, hf⟩ := hg
        refine j_cpi (pc := 30) (v := q3) (va_runV (As := [.int x1, .int x2]) (rest := []) S (kH_canRemove l D ca ad _ σ x1 x2 q3 h4) (cwV 2 S.2.2.2.2 (jgV k_507 k_509 ks_15 k_1 k_510) rfl rfl rfl (by decide +kernel) ⟨Nat.le_of_ble_eq_true rfl, Nat.le_of_ble_eq_true rfl⟩) (j_preV (As := [.int x1, .int x2]) hw xN_b (xN_to hN hw hA) rfl xg_0) rfl rfl hl.1 rfl (lv_room (Nat.le_of_ble_eq_true rfl)) dH_remove_30 ⟨Nat.le_of_ble_eq_true rfl, Nat.le_of_ble_eq_true rfl⟩) ?_
        refine lv_if_ne (pc := 33) (tgt := 44) hx hb dH_remove_33 (by decide) (fun hc => ?_) (fun hc => ?_)
        · replace hf := jif hf hc
          refine lv_aload_n (pc := 44) hx hb dH_remove_44 rfl (lv_at hl 0 rfl) ?_
          refine j_get (pc := 45) (v := .ref (ad 27)) S hw inH 0 0 6 xg_0 rfl (by decide) k_168 rfl dH_remove_45 ?_
          refine lv_iload_n (pc := 48) hx hb dH_remove_48 rfl (lv_at hl 1 rfl) ?_
          have hg := jrd_e hf; clear hf; obtain ⟨h6, v5, e7, hf⟩ := hg
          refine j_iald (pc := 49) S hw 27 21 xg_27 xt_27 h6 e7 dH_remove_49 ?_
          refine lv_iconst (pc := 50) (v := (-1 : Int32)) hx hb dH_remove_50 (by decide) ?_
          refine lv_icmp_ne (pc := 51) (tgt := 58) hx hb dH_remove_51 (by decide) (fun hc => ?_) (fun hc => ?_)
          · replace hf := jif hf hc
            refine lv_iconst (pc := 58) (v := (0 : Int32)) hx hb dH_remove_58 (by decide) ?_
            exact wnmH_remove_J59 hA S hN hr hlk vo σo σ x1 x2 (0 : Int32) _ (lv_sub hl [0, 1, 2] rfl) hw hf
          · replace hf := jit hf hc
            refine lv_iconst (pc := 54) (v := (1 : Int32)) hx hb dH_remove_54 (by decide) ?_
            refine lv_goto (pc := 55) (tgt := 59) hx hb dH_remove_55 (by decide) ?_
            exact wnmH_remove_J59 hA S hN hr hlk vo σo σ x1 x2 (1 : Int32) _ (lv_sub hl [0, 1, 2] rfl) hw hf
        · replace hf := jit hf hc
          exact (jo2 hf).elim
    · replace hf := jif hf hc
      exact (jo2 hf).elim
set_option maxHeartbeats 4000000 in
set_option maxRecDepth 100000 in
theorem knH_remove (l : Launch) (D : va_G) (ca : Nat → ClassId) (ad : Nat → Nat) (sz : Nat) (σ : JS) (x1 : Int32) (x2 : Int32) (vo : Int32) (σo : JS) (hf : mH_remove σ x1 x2 = some (0, vo, σo)) : Met l yH_remove wsH_remove rmnH_remove (jPre D (xT ca) (xC ca ad σ) (xN (va_A (xC ca ad σ) sz)) sz [.ref (ad 0), .int x1, .int x2]) (jQi D (xT ca) (xC ca ad) (va_A (xC ca ad σ) sz) vo σo) 0 0 (va_A (xC ca ad σ) sz) := by
  refine Met.ofW (cc := cH_remove) (maxL := 6) (ret := some .int) (by decide) rfl ?_
  intro p e s m args below meth c s₁ B hml hv
  obtain ⟨rfl, hsz, hP, hK, hD0, hN⟩ := hv
  subst hsz
  have hl := lv_entry [.ref (ad 0), .int x1, .int x2] (n := 6) (Nat.le_of_ble_eq_true rfl)
  rw [lg_entry_eq]
  generalize (lg_sl [.ref (ad 0), .int x1, .int x2] ++ List.replicate (6 - (lg_sl [.ref (ad 0), .int x1, .int x2]).length) Slot.unset).toArray = ls at hl ⊢
  exact bnH_remove (fun q h => Or.inr h) ⟨B.exec, B.bytes, hml, findClass_of_methodNamed B.named, fun w h => atoms_spec (ws := wsH_remove) B.pre w (List.mem_cons_of_mem _ h)⟩ hN B.returns B.notSynchronized vo σo σ x1 x2 ls hl ⟨hP, hD0.self, va_S.rf, hK⟩ hf
set_option maxHeartbeats 4000000 in
set_option maxRecDepth 100000 in
theorem wxmH_remove_L81g {p : Program} {l : Launch} {e : Env} {s : State} {m : MethodId} {args : Array Value} {below : List Frame} {meth : Method} {c : Code} {D : va_G} {ca : Nat → ClassId} {ad : Nat → Nat} {A : Nat → Prop} (hA : ∀ q, s.heap.size ≤ q → A q) (S : CallFix p m c cH_remove 6 s args jall RH) (hN : xN A s) (hr : meth.sig.returnType = some .int) (hlk : meth.locks = false) (hl9 : l.stackTraces = false) (ht9 : ∀ x ∈ c.exceptionTable.toList, False) (ko : Nat) (vo : Int32) (σo : JS) (hko : ¬ ko = 0) (k : JS → Int32 → Option (Nat × Int32 × JS)) (x1 : Int32) (x2 : Int32) (x3 : Int32) (x4 : Int32) (hk : ∀ (σ : JS) (x5 : Int32) (ls : Array Slot) (H : Heap) (locs : List Loc), lv_has ls 6 [(0, .ref (ad 0)), (1, .int x1), (2, .int x2), (3, .int x3), (4, .int x4), (5, .int x5)] → jH D (xT ca) (xC ca ad σ) A s.heap H locs s → k σ x5 = some (ko, vo, σo) → W p l e (headSpec wsH_remove rmxH_remove).room s m args below meth c H locs 0 0 (jxQ below s (jE ko) (jB D (xT ca) (xC ca ad) A σo) A 1 6) (F0 m 134 ls [])) : ∀ (n : Nat) (σ : JS) (x5 : Int32) (ls : Array Slot) (H : Heap) (locs : List Loc), lv_has ls 6 [(0, .ref (ad 0)), (1, .int x1), (2, .int x2), (3, .int x3), (4, .int x4), (5, .int x5)] → jH D (xT ca) (xC ca ad σ) A s.heap H locs s → mH_remove_L81 k x1 x2 x3 x4 n σ x5 = some (ko, vo, σo) → W p l e (headSpec wsH_remove rmxH_remove).room s m args below meth c H locs 0 0 (jxQ below s (jE ko) (jB D (xT ca) (xC ca ad) A σo) A 1 6) (F0 m 81 ls []) := by
  have hx := S.1
  have hb := S.2.1
  intro n
  induction n with
  | zero => intro σ x5 ls H locs hl hw hf; cases hf
  | succ n ih =>
    intro σ x5 ls H locs hl hw hf
    rw [mH_remove_L81] at hf
    refine lv_iload (pc := 81) hx hb dH_remove_81 (lv_at hl 5 rfl) ?_
    refine lv_iload_n (pc := 83) hx hb dH_remove_83 rfl (lv_at hl 2 rfl) ?_
    refine lv_icmp_le (pc := 84) (tgt := 134) hx hb dH_remove_84 (by decide) (fun hc => ?_) (fun hc => ?_)
    · replace hf := jit hf hc
      exact hk σ x5 _ _ _ (lv_sub hl [0, 1, 2, 3, 4, 5] rfl) hw hf
    · replace hf := jif hf hc
      refine lv_aload_n (pc := 87) hx hb dH_remove_87 rfl (lv_at hl 0 rfl) ?_
      refine j_get (pc := 88) (v := .ref (ad 1)) S hw inH 0 0 0 xg_0 rfl (by decide) k_162 rfl dH_remove_88 ?_
      refine lv_iload_n (pc := 91) hx hb dH_remove_91 rfl (lv_at hl 1 rfl) ?_
      refine lv_iload (pc := 92) hx hb dH_remove_92 (lv_at hl 5 rfl) ?_
      have hg := jbn_e hf; clear hf; obtain ⟨q12, h13, hf⟩ := hg
      refine j_cpi (pc := 94) (v := q12) (va_runV (As := [.int x1, .int x5]) (rest := []) S (kJ_isChangeOf l D ca ad _ σ x1 x5 q12 h13) (cwV 2 S.2.2.2.2 (jgV k_499 k_491 k_492 k_2 k_493) rfl rfl rfl (by decide +kernel) ⟨Nat.le_of_ble_eq_true rfl, Nat.le_of_ble_eq_true rfl⟩) (j_preV (As := [.int x1, .int x5]) hw xN_b (xN_to hN hw hA) rfl xg_1) rfl rfl hl.1 rfl (lv_room (Nat.le_of_ble_eq_true rfl)) dH_remove_94 ⟨Nat.le_of_ble_eq_true rfl, Nat.le_of_ble_eq_true rfl⟩) ?_
      refine lv_if_eq (pc := 97) (tgt := 128) hx hb dH_remove_97 (by decide) (fun hc => ?_) (fun hc => ?_)
      · replace hf := jit hf hc
        refine lv_iinc (pc := 128) (v := (x5 + (-1))) (k := 5) (lv' := [(5, .int (x5 + (-1))), (0, .ref (ad 0)), (1, .int x1), (2, .int x2), (3, .int x3), (4, .int x4)]) hx hb dH_remove_128 hl rfl (j_inc _ (by decide)) (by decide) rfl (fun ls hl => ?_)
        refine lv_goto (pc := 131) (tgt := 81) hx hb dH_remove_131 (by decide) ?_
        exact ih σ (x5 + (-1)) _ _ _ (lv_sub hl [1, 2, 3, 4, 5, 0] rfl) hw hf
      · replace hf := jif hf hc
        refine lv_aload_n (pc := 100) hx hb dH_remove_100 rfl (lv_at hl 0 rfl) ?_
        refine j_get (pc := 101) (v := .ref (ad 29)) S hw inH 0 0 8 xg_0 rfl (by decide) k_170 rfl dH_remove_101 ?_
        refine lv_aload_n (pc := 104) hx hb dH_remove_104 rfl (lv_at hl 0 rfl) ?_
        refine j_get (pc := 105) (v := .ref (ad 1)) S hw inH 0 0 0 xg_0 rfl (by decide) k_162 rfl dH_remove_105 ?_
        refine j_get (pc := 108) (v := .ref (ad 8)) S hw inJ 1 1 2 xg_1 rfl (by decide) k_37 rfl dH_remove_108 ?_
        refine lv_iload (pc := 111) hx hb dH_remove_111 (lv_at hl 5 rfl) ?_
        have hg := jrd_e hf; clear hf; obtain ⟨h15, v14, e16, hf⟩ := hg
        refine j_iald (pc := 113) S hw 8 2 xg_8 xt_8 h15 e16 dH_remove_113 ?_
        have hg := jbn_e hf; clear hf; obtain ⟨q17, h18, hf⟩ := hg
        refine j_cpi (pc := 114) (v := q17) (va_runS (As := [.int v14]) (rest := [.ref (ad 29)]) S (kH_recordOf l D ca ad _ σ v14 q17 h18) (cwS 1 S.2.2.2.2 (jgS k_254 k_255 k_1 k_256) rfl rfl rfl (by decide +kernel) ⟨Nat.le_of_ble_eq_true rfl, Nat.le_of_ble_eq_true rfl⟩) (j_preS hw xN_b (xN_to hN hw hA)) rfl rfl hl.1 rfl (lv_room (Nat.le_of_ble_eq_true rfl)) dH_remove_114 ⟨Nat.le_of_ble_eq_true rfl, Nat.le_of_ble_eq_true rfl⟩) ?_
        refine lv_aload_n (pc := 117) hx hb dH_remove_117 rfl (lv_at hl 0 rfl) ?_
        refine j_get (pc := 118) (v := .ref (ad 1)) S hw inH 0 0 0 xg_0 rfl (by decide) k_162 rfl dH_remove_118 ?_
        refine j_get (pc := 121) (v := .ref (ad 9)) S hw inJ 1 1 3 xg_1 rfl (by decide) k_40 rfl dH_remove_121 ?_
        refine lv_iload (pc := 124) hx hb dH_remove_124 (lv_at hl 5 rfl) ?_
        have hg := jrd_e hf; clear hf; obtain ⟨h20, v19, e21, hf⟩ := hg
        refine j_iald (pc := 126) S hw 9 3 xg_9 xt_9 h20 e21 dH_remove_126 ?_
        have hg := jwr_e hf; clear hf; obtain ⟨h23, σ22, e24, hf⟩ := hg
        refine j_iast (pc := 127) (ws' := xC ca ad σ22) S hw 29 23 xg_29 xt_29 h23 (by rw [e24]; exact xs_29) dH_remove_127 (fun H locs hw => ?_)
        refine lv_iinc (pc := 128) (v := (x5 + (-1))) (k := 5) (lv' := [(5, .int (x5 + (-1))), (0, .ref (ad 0)), (1, .int x1), (2, .int x2), (3, .int x3), (4, .int x4)]) hx hb dH_remove_128 hl rfl (j_inc _ (by decide)) (by decide) rfl (fun ls hl => ?_)
        refine lv_goto (pc := 131) (tgt := 81) hx hb dH_remove_131 (by decide) ?_
        exact ih σ22 (x5 + (-1)) _ _ _ (lv_sub hl [1, 2, 3, 4, 5, 0] rfl) hw hf
set_option maxHeartbeats 4000000 in
set_option maxRecDepth 100000 in
theorem wxmH_remove_J59 {p : Program} {l : Launch} {e : Env} {s : State} {m : MethodId} {args : Array Value} {below : List Frame} {meth : Method} {c : Code} {D : va_G} {ca : Nat → ClassId} {ad : Nat → Nat} {A : Nat → Prop} (hA : ∀ q, s.heap.size ≤ q → A q) (S : CallFix p m c cH_remove 6 s args jall RH) (hN : xN A s) (hr : meth.sig.returnType = some .int) (hlk : meth.locks = false) (hl9 : l.stackTraces = false) (ht9 : ∀ x ∈ c.exceptionTable.toList, False) (ko : Nat) (vo : Int32) (σo : JS) (hko : ¬ ko = 0) (σ : JS) (x1 : Int32) (x2 : Int32) (y0 : Int32) (ls : Array Slot) (hl : lv_has ls 6 [(0, .ref (ad 0)), (1, .int x1), (2, .int x2)]) (hw : jH D (xT ca) (xC ca ad σ) A s.heap s.heap [] s) (hf : mH_remove_J59 σ x1 x2 y0 = some (ko, vo, σo)) : W p l e (headSpec wsH_remove rmxH_remove).room s m args below meth c s.heap [] 0 0 (jxQ below s (jE ko) (jB D (xT ca) (xC ca ad) A σo) A 1 6) (F0 m 59 ls [.int y0]) := by
  have hx := S.1
  have hb := S.2.1
  unfold mH_remove_J59 at hf
  refine lv_istore_n (pc := 59) (lv' := [(3, .int y0), (0, .ref (ad 0)), (1, .int x1), (2, .int x2)]) hx hb dH_remove_59 rfl hl (by decide) rfl (fun ls hl => ?_)
  refine lv_aload_n (pc := 60) hx hb dH_remove_60 rfl (lv_at hl 1 rfl) ?_
  refine j_get (pc := 61) (v := .ref (ad 1)) S hw inH 0 0 0 xg_0 rfl (by decide) k_162 rfl dH_remove_61 ?_
  refine j_get (pc := 64) (v := .int (σ 100 0)) S hw inJ 1 1 9 xg_1 rfl (by decide) k_50 rfl dH_remove_64 ?_
  refine lv_istore (pc := 67) (lv' := [(4, .int (σ 100 0)), (3, .int y0), (0, .ref (ad 0)), (1, .int x1), (2, .int x2)]) hx hb dH_remove_67 hl (by decide) rfl (fun ls hl => ?_)
  refine lv_aload_n (pc := 69) hx hb dH_remove_69 rfl (lv_at hl 2 rfl) ?_
  refine lv_iload_n (pc := 70) hx hb dH_remove_70 rfl (lv_at hl 3 rfl) ?_
  have hg := jbn_e hf; clear hf; obtain ⟨q8, h9, hf⟩ := hg
  refine j_callv (pc := 71) (C := xC ca ad) (σ' := q8) hw hA (va_runV (As := [.int x1]) (rest := []) S (kH_wantWhatIs l D ca ad _ σ x1 q8 h9) (cwV 1 S.2.2.2.2 (jgV k_495 k_497 ks_13 k_1 k_498) rfl rfl rfl (by decide +kernel) ⟨Nat.le_of_ble_eq_true rfl, Nat.le_of_ble_eq_true rfl⟩) (j_preV (As := [.int x1]) hw xN_b (xN_to hN hw hA) rfl xg_0) rfl rfl hl.1 rfl (lv_room (Nat.le_of_ble_eq_true rfl)) dH_remove_71 ⟨Nat.le_of_ble_eq_true rfl, Nat.le_of_ble_eq_true rfl⟩) (fun H locs hw => ?_)
  refine lv_aload_n (pc := 74) hx hb dH_remove_74 rfl (lv_at hl 2 rfl) ?_
  refine lv_iload_n (pc := 75) hx hb dH_remove_75 rfl (lv_at hl 3 rfl) ?_
  have hg := jbn_e hf; clear hf; obtain ⟨q10, h11, hf⟩ := hg
  refine j_cpi (pc := 76) (v := q10) (va_runV (As := [.int x1]) (rest := []) S (kH_numberToRemoveFrom l D ca ad _ q8 x1 q10 h11) (cwV 1 S.2.2.2.2 (jgV k_511 k_513 ks_14 k_1 k_514) rfl rfl rfl (by decide +kernel) ⟨Nat.le_of_ble_eq_true rfl, Nat.le_of_ble_eq_true rfl⟩) (j_preV (As := [.int x1]) hw xN_b (xN_to hN hw hA) rfl xg_0) rfl rfl hl.1 rfl (lv_room (Nat.le_of_ble_eq_true rfl)) dH_remove_76 ⟨Nat.le_of_ble_eq_true rfl, Nat.le_of_ble_eq_true rfl⟩) ?_
  refine lv_istore (pc := 79) (lv' := [(5, .int q10), (4, .int (σ 100 0)), (3, .int y0), (0, .ref (ad 0)), (1, .int x1), (2, .int x2)]) hx hb dH_remove_79 hl (by decide) rfl (fun ls hl => ?_)
  refine wxmH_remove_L81g hA S hN hr hlk hl9 ht9 ko vo σo hko _ x1 x2 y0 (σ 100 0) (fun σ25 z26 ls H locs hl hw hf => ?_) 999 q8 q10 _ _ _ (lv_sub hl [3, 4, 5, 2, 1, 0] rfl) hw hf
  try dsimp only at hf
  refine lv_aload_n (pc := 134) hx hb dH_remove_134 rfl (lv_at hl 0 rfl) ?_
  refine lv_iload_n (pc := 135) hx hb dH_remove_135 rfl (lv_at hl 1 rfl) ?_
  refine lv_iload_n (pc := 136) hx hb dH_remove_136 rfl (lv_at hl 2 rfl) ?_
  have hg := jbn_e hf; clear hf; obtain ⟨q27, h28, hf⟩ := hg
  by_cases hz9 : q27.1 = 0
  · replace hf := jit hf hz9
    refine j_calli (pc := 137) (C := xC ca ad) (σ' := q27.2.2) (v := q27.2.1) hw hA (va_runV (As := [.int x1, .int x2]) (rest := []) S (knH_bringToWanted l D ca ad _ σ25 x1 x2 q27.2.1 q27.2.2 (jq0 h28 hz9)) (cwV 2 S.2.2.2.2 (jgV k_463 k_465 ks_11 k_1 k_466) rfl rfl rfl (by decide +kernel) ⟨Nat.le_of_ble_eq_true rfl, Nat.le_of_ble_eq_true rfl⟩) (j_preV (As := [.int x1, .int x2]) hw xN_b (xN_to hN hw hA) rfl xg_0) rfl rfl hl.1 rfl (lv_room (Nat.le_of_ble_eq_true rfl)) dH_remove_137 ⟨Nat.le_of_ble_eq_true rfl, Nat.le_of_ble_eq_true rfl⟩) (fun H locs hw => ?_)
    refine lv_istore (pc := 140) (lv' := [(5, .int q27.2.1), (0, .ref (ad 0)), (1, .int x1), (2, .int x2), (3, .int y0), (4, .int (σ 100 0))]) hx hb dH_remove_140 hl (by decide) rfl (fun ls hl => ?_)
    refine lv_iload_n (pc := 142) hx hb dH_remove_142 rfl (lv_at hl 4 rfl) ?_
    refine lv_if_eq (pc := 143) (tgt := 156) hx hb dH_remove_143 (by decide) (fun hc => ?_) (fun hc => ?_)
    · replace hf := jit hf hc
      refine lv_iload (pc := 156) hx hb dH_remove_156 (lv_at hl 0 rfl) ?_
      exact absurd (jo1 hf) hko
    · replace hf := jif hf hc
      refine lv_aload_n (pc := 146) hx hb dH_remove_146 rfl (lv_at hl 1 rfl) ?_
      refine j_get (pc := 147) (v := .ref (ad 28)) S hw inH 0 0 7 xg_0 rfl (by decide) k_169 rfl dH_remove_147 ?_
      refine lv_iload_n (pc := 150) hx hb dH_remove_150 rfl (lv_at hl 2 rfl) ?_
      refine lv_iload (pc := 151) hx hb dH_remove_151 (lv_at hl 5 rfl) ?_
      refine lv_iconst (pc := 153) (v := (1 : Int32)) hx hb dH_remove_153 (by decide) ?_
      refine lv_iadd (pc := 154) hx hb dH_remove_154 ?_
      have hg := jwr_e hf; clear hf; obtain ⟨h30, σ29, e31, hf⟩ := hg
      refine j_iast (pc := 155) (ws' := xC ca ad σ29) S hw 28 22 xg_28 xt_28 h30 (by rw [e31]; exact xs_28) dH_remove_155 (fun H locs hw => ?_)
      refine lv_iload (pc := 156) hx hb dH_remove_156 (lv_at hl 0 rfl) ?_
      exact absurd (jo1 hf) hko
  · replace hf := jif hf hz9
    obtain ⟨rfl, rfl, rfl⟩ := jo4 hf
    exact jx_passV (pc := 137) (As := [.int x1, .int x2]) (rest := []) (C := xC ca ad) S hw hA ht9 hlk (kxH_bringToWanted l hl9 D ca ad _ σ25 x1 x2 q27.1 q27.2.1 q27.2.2 hz9 (jq1 h28)) (cwV 2 S.2.2.2.2 (jgV k_463 k_465 ks_11 k_1 k_466) rfl rfl rfl (by decide +kernel) ⟨Nat.le_of_ble_eq_true rfl, Nat.le_of_ble_eq_true rfl⟩) (j_preV (As := [.int x1, .int x2]) hw xN_b (xN_to hN hw hA) rfl xg_0) rfl hl.1 (Nat.le_of_ble_eq_true rfl) dH_remove_137 (Nat.le_of_ble_eq_true rfl) (Nat.le_of_ble_eq_true rfl)
set_option maxHeartbeats 4000000 in
set_option maxRecDepth 100000 in
theorem bxH_remove {p : Program} {l : Launch} {e : Env} {s : State} {m : MethodId} {args : Array Value} {below : List Frame} {meth : Method} {c : Code} {D : va_G} {ca : Nat → ClassId} {ad : Nat → Nat} {A : Nat → Prop} (hA : ∀ q, s.heap.size ≤ q → A q) (S : CallFix p m c cH_remove 6 s args jall RH) (hN : xN A s) (hr : meth.sig.returnType = some .int) (hlk : meth.locks = false) (hl9 : l.stackTraces = false) (ht9 : ∀ x ∈ c.exceptionTable.toList, False) (ko : Nat) (vo : Int32) (σo : JS) (hko : ¬ ko = 0) (σ : JS) (x1 : Int32) (x2 : Int32) (ls : Array Slot) (hl : lv_has ls 6 [(0, .ref (ad 0)), (1, .int x1), (2, .int x2)]) (hw : jH D (xT ca) (xC ca ad σ) A s.heap s.heap [] s) (hf : mH_remove σ x1 x2 = some (ko, vo, σo)) : W p l e (headSpec wsH_remove rmxH_remove).room s m args below meth c s.heap [] 0 0 (jxQ below s (jE ko) (jB D (xT ca) (xC ca ad) A σo) A 1 6) (F0 m 0 ls []) := by
  have hx := S.1
  have hb := S.2.1
  unfold mH_remove at hf
  refine lv_aload_n (pc := 0) hx hb dH_remove_0 rfl (lv_at hl 0 rfl) ?_
  refine lv_iload_n (pc := 1) hx hb dH_remove_1 rfl (lv_at hl 1 rfl) ?_
  have hg := jbn_e hf; clear hf; obtain ⟨q1, h2, hf⟩ := hg
  refine j_cpi (pc := 2) (v := q1) (va_runV (As := [.int x1]) (rest := []) S (kH_isFile l D ca ad _ σ x1 q1 h2) (cwV 1 S.2.2.2.2 (jgV k_207 k_209 ks_0 k_1 k_210) rfl rfl rfl (by decide +kernel) ⟨Nat.le_of_ble_eq_true rfl, Nat.le_of_ble_eq_true rfl⟩) (j_preV (As := [.int x1]) hw xN_b (xN_to hN hw hA) rfl xg_0) rfl rfl hl.1 rfl (lv_room (Nat.le_of_ble_eq_true rfl)) dH_remove_2 ⟨Nat.le_of_ble_eq_true rfl, Nat.le_of_ble_eq_true rfl⟩) ?_
  refine lv_if_eq (pc := 5) (tgt := 12) hx hb dH_remove_5 (by decide) (fun hc => ?_) (fun hc => ?_)
  · replace hf := jit hf hc
    obtain ⟨rfl, rfl, rfl⟩ := jo4 hf
    exact jx_throw (pc := 12) (own := RH) (cls := jE 1) (names := jnm) (ik := 61) (ic := 63) hx hb hl9 S.2.2.2.1 (by decide +kernel) (by decide +kernel) (S.2.2.2.2 _ k_278) (S.2.2.2.2 _ k_11) (jxw_of S hN jxw1) (hl.1.trans S.2.2.1.symm) dH_remove_12 dH_remove_15 dH_remove_16 dH_remove_19 ht9 (Nat.le_of_ble_eq_true rfl) (Nat.le_of_ble_eq_true rfl) (Nat.le_of_ble_eq_true rfl) (Nat.le_of_ble_eq_true rfl) hlk (Nat.le_refl _) (Nat.le_refl _) (jB_kept hw)
  · replace hf := jif hf hc
    refine lv_iload_n (pc := 8) hx hb dH_remove_8 rfl (lv_at hl 2 rfl) ?_
    refine lv_if_ge (pc := 9) (tgt := 20) hx hb dH_remove_9 (by decide) (fun hc => ?_) (fun hc => ?_)
    · replace hf := jit hf hc
      refine lv_aload_n (pc := 20) hx hb dH_remove_20 rfl (lv_at hl 0 rfl) ?_
      refine j_get (pc := 21) (v := .int (σ 100 8)) S hw inH 0 0 11 xg_0 rfl (by decide) k_173 rfl dH_remove_21 ?_
      refine lv_if_eq (pc := 24) (tgt := 36) hx hb dH_remove_24 (by decide) (fun hc => ?_) (fun hc => ?_)
      · replace hf := jit hf hc
        obtain ⟨rfl, rfl, rfl⟩ := jo4 hf
        exact jx_throw (pc := 36) (own := RH) (cls := jE 2) (names := jnm) (ik := 68) (ic := 70) hx hb hl9 S.2.2.2.1 (by decide +kernel) (by decide +kernel) (S.2.2.2.2 _ k_340) (S.2.2.2.2 _ k_12) (jxw_of S hN jxw2) (hl.1.trans S.2.2.1.symm) dH_remove_36 dH_remove_39 dH_remove_40 dH_remove_43 ht9 (Nat.le_of_ble_eq_true rfl) (Nat.le_of_ble_eq_true rfl) (Nat.le_of_ble_eq_true rfl) (Nat.le_of_ble_eq_true rfl) hlk (Nat.le_refl _) (Nat.le_refl _) (jB_kept hw)
      · replace hf := jif hf hc
        refine lv_aload_n (pc := 27) hx hb dH_remove_27 rfl (lv_at hl 0 rfl) ?_
        refine lv_iload_n (pc := 28) hx hb dH_remove_28 rfl (lv_at hl 1 rfl) ?_
        refine lv_iload_n (pc := 29) hx hb dH_remove_29 rfl (lv_at hl 2 rfl) ?_
        have hg := jbn_e hf; clear hf; obtain ⟨q3, h4, hf⟩ := hg
        refine j_cpi (pc := 30) (v := q3) (va_runV (As := [.int x1, .int x2]) (rest := []) S (kH_canRemove l D ca ad _ σ x1 x2 q3 h4) (cwV 2 S.2.2.2.2 (jgV k_507 k_509 ks_15 k_1 k_510) rfl rfl rfl (by decide +kernel) ⟨Nat.le_of_ble_eq_true rfl, Nat.le_of_ble_eq_true rfl⟩) (j_preV (As := [.int x1, .int x2]) hw xN_b (xN_to hN hw hA) rfl xg_0) rfl rfl hl.1 rfl (lv_room (Nat.le_of_ble_eq_true rfl)) dH_remove_30 ⟨Nat.le_of_ble_eq_true rfl, Nat.le_of_ble_eq_true rfl⟩) ?_
        refine lv_if_ne (pc := 33) (tgt := 44) hx hb dH_remove_33 (by decide) (fun hc => ?_) (fun hc => ?_)
        · replace hf := jif hf hc
          refine lv_aload_n (pc := 44) hx hb dH_remove_44 rfl (lv_at hl 0 rfl) ?_
          refine j_get (pc := 45) (v := .ref (ad 27)) S hw inH 0 0 6 xg_0 rfl (by decide) k_168 rfl dH_remove_45 ?_
          refine lv_iload_n (pc := 48) hx hb dH_remove_48 rfl (lv_at hl 1 rfl) ?_
          have hg := jrd_e hf; clear hf; obtain ⟨h6, v5, e7, hf⟩ := hg
          refine j_iald (pc := 49) S hw 27 21 xg_27 xt_27 h6 e7 dH_remove_49 ?_
          refine lv_iconst (pc := 50) (v := (-1 : Int32)) hx hb dH_remove_50 (by decide) ?_
          refine lv_icmp_ne (pc := 51) (tgt := 58) hx hb dH_remove_51 (by decide) (fun hc => ?_) (fun hc => ?_)
          · replace hf := jif hf hc
            refine lv_iconst (pc := 58) (v := (0 : Int32)) hx hb dH_remove_58 (by decide) ?_
            exact wxmH_remove_J59 hA S hN hr hlk hl9 ht9 ko vo σo hko σ x1 x2 (0 : Int32) _ (lv_sub hl [0, 1, 2] rfl) hw hf
          · replace hf := jit hf hc
            refine lv_iconst (pc := 54) (v := (1 : Int32)) hx hb dH_remove_54 (by decide) ?_
            refine lv_goto (pc := 55) (tgt := 59) hx hb dH_remove_55 (by decide) ?_
            exact wxmH_remove_J59 hA S hN hr hlk hl9 ht9 ko vo σo hko σ x1 x2 (1 : Int32) _ (lv_sub hl [0, 1, 2] rfl) hw hf
        · replace hf := jit hf hc
          obtain ⟨rfl, rfl, rfl⟩ := jo4 hf
          exact jx_throw (pc := 36) (own := RH) (cls := jE 2) (names := jnm) (ik := 68) (ic := 70) hx hb hl9 S.2.2.2.1 (by decide +kernel) (by decide +kernel) (S.2.2.2.2 _ k_340) (S.2.2.2.2 _ k_12) (jxw_of S hN jxw2) (hl.1.trans S.2.2.1.symm) dH_remove_36 dH_remove_39 dH_remove_40 dH_remove_43 ht9 (Nat.le_of_ble_eq_true rfl) (Nat.le_of_ble_eq_true rfl) (Nat.le_of_ble_eq_true rfl) (Nat.le_of_ble_eq_true rfl) hlk (Nat.le_refl _) (Nat.le_refl _) (jB_kept hw)
    · replace hf := jif hf hc
      obtain ⟨rfl, rfl, rfl⟩ := jo4 hf
      exact jx_throw (pc := 12) (own := RH) (cls := jE 1) (names := jnm) (ik := 61) (ic := 63) hx hb hl9 S.2.2.2.1 (by decide +kernel) (by decide +kernel) (S.2.2.2.2 _ k_278) (S.2.2.2.2 _ k_11) (jxw_of S hN jxw1) (hl.1.trans S.2.2.1.symm) dH_remove_12 dH_remove_15 dH_remove_16 dH_remove_19 ht9 (Nat.le_of_ble_eq_true rfl) (Nat.le_of_ble_eq_true rfl) (Nat.le_of_ble_eq_true rfl) (Nat.le_of_ble_eq_true rfl) hlk (Nat.le_refl _) (Nat.le_refl _) (jB_kept hw)
set_option maxHeartbeats 4000000 in
set_option maxRecDepth 100000 in
theorem kxH_remove (l : Launch) (hl9 : l.stackTraces = false) (D : va_G) (ca : Nat → ClassId) (ad : Nat → Nat) (sz : Nat) (σ : JS) (x1 : Int32) (x2 : Int32) (ko : Nat) (vo : Int32) (σo : JS) (hko : ¬ ko = 0) (hf : mH_remove σ x1 x2 = some (ko, vo, σo)) : jxM l yH_remove wsH_remove rmxH_remove (jPre D (xT ca) (xC ca ad σ) (xN (va_A (xC ca ad σ) sz)) sz [.ref (ad 0), .int x1, .int x2]) (jE ko) (jB D (xT ca) (xC ca ad) (va_A (xC ca ad σ) sz) σo) (va_A (xC ca ad σ) sz) 1 6 := by
  refine jxM_of (cc := cH_remove) (maxL := 6) (ret := some .int) (by decide) rfl ?_
  intro p e s m args below meth c s₁ B hml hnil hv
  obtain ⟨rfl, hsz, hP, hK, hD0, hN⟩ := hv
  subst hsz
  have hl := lv_entry [.ref (ad 0), .int x1, .int x2] (n := 6) (Nat.le_of_ble_eq_true rfl)
  rw [lg_entry_eq]
  generalize (lg_sl [.ref (ad 0), .int x1, .int x2] ++ List.replicate (6 - (lg_sl [.ref (ad 0), .int x1, .int x2]).length) Slot.unset).toArray = ls at hl ⊢
  exact bxH_remove (fun q h => Or.inr h) ⟨B.exec, B.bytes, hml, findClass_of_methodNamed B.named, fun w h => atoms_spec (ws := wsH_remove) B.pre w (List.mem_cons_of_mem _ h)⟩ hN B.returns B.notSynchronized hl9 hnil ko vo σo hko σ x1 x2 ls hl ⟨hP, hD0.self, va_S.rf, hK⟩ hf

def rmH_number : Room := { frames := 1, cells := 0, slots := 0, locals := 21 }
def mH_number (σ : JS) (x1 : Int32) : Option (Int32) :=
  jbn (mH_isFile σ x1) fun q1 =>
  if q1 = 0 then
  (some (-1 : Int32))
  else
  (jrd σ 27 3 x1 fun v3 =>
  some v3)
set_option maxHeartbeats 4000000 in
set_option maxRecDepth 100000 in
theorem bH_number {p : Program} {l : Launch} {e : Env} {s : State} {m : MethodId} {args : Array Value} {below : List Frame} {meth : Method} {c : Code} {D : va_G} {ca : Nat → ClassId} {ad : Nat → Nat} {A : Nat → Prop} (hA : ∀ q, s.heap.size ≤ q → A q) (S : CallFix p m c cH_number 2 s args jall RH) (hN : xN A s) (hr : meth.sig.returnType = some .int) (hlk : meth.locks = false) (out : Int32) (σ : JS) (x1 : Int32) (ls : Array Slot) (hl : lv_has ls 2 [(0, .ref (ad 0)), (1, .int x1)]) (hw : jH D (xT ca) (xC ca ad σ) A s.heap s.heap [] s) (hf : mH_number σ x1 = some out) : W p l e (headSpec wsH_number rmH_number).room s m args below meth c s.heap [] 0 0 (MQ below (jSi out) args s 0 0 (fun _ => False)) (F0 m 0 ls []) := by
  have hx := S.1
  have hb := S.2.1
  unfold mH_number at hf
  refine lv_aload_n (pc := 0) hx hb dH_number_0 rfl (lv_at hl 0 rfl) ?_
  refine lv_iload_n (pc := 1) hx hb dH_number_1 rfl (lv_at hl 1 rfl) ?_
  have hg := jbn_e hf; clear hf; obtain ⟨q1, h2, hf⟩ := hg
  refine j_cpi (pc := 2) (v := q1) (va_runV (As := [.int x1]) (rest := []) S (kH_isFile l D ca ad _ σ x1 q1 h2) (cwV 1 S.2.2.2.2 (jgV k_207 k_209 ks_0 k_1 k_210) rfl rfl rfl (by decide +kernel) ⟨Nat.le_of_ble_eq_true rfl, Nat.le_of_ble_eq_true rfl⟩) (j_preV (As := [.int x1]) hw xN_b (xN_to hN hw hA) rfl xg_0) rfl rfl hl.1 rfl (lv_room (Nat.le_of_ble_eq_true rfl)) dH_number_2 ⟨Nat.le_of_ble_eq_true rfl, Nat.le_of_ble_eq_true rfl⟩) ?_
  refine lv_if_eq (pc := 5) (tgt := 17) hx hb dH_number_5 (by decide) (fun hc => ?_) (fun hc => ?_)
  · replace hf := jit hf hc
    refine lv_iconst (pc := 17) (v := (-1 : Int32)) hx hb dH_number_17 (by decide) ?_
    obtain rfl := jsm hf
    exact j_ipr (pc := 18) S hr hlk dH_number_18
  · replace hf := jif hf hc
    refine lv_aload_n (pc := 8) hx hb dH_number_8 rfl (lv_at hl 0 rfl) ?_
    refine j_get (pc := 9) (v := .ref (ad 27)) S hw inH 0 0 6 xg_0 rfl (by decide) k_168 rfl dH_number_9 ?_
    refine lv_iload_n (pc := 12) hx hb dH_number_12 rfl (lv_at hl 1 rfl) ?_
    have hg := jrd_e hf; clear hf; obtain ⟨h4, v3, e5, hf⟩ := hg
    refine j_iald (pc := 13) S hw 27 21 xg_27 xt_27 h4 e5 dH_number_13 ?_
    refine lv_goto (pc := 14) (tgt := 18) hx hb dH_number_14 (by decide) ?_
    obtain rfl := jsm hf
    exact j_ipr (pc := 18) S hr hlk dH_number_18
set_option maxHeartbeats 4000000 in
set_option maxRecDepth 100000 in
theorem kH_number (l : Launch) (D : va_G) (ca : Nat → ClassId) (ad : Nat → Nat) (sz : Nat) (σ : JS) (x1 : Int32) (out : Int32) (hf : mH_number σ x1 = some out) : Met l yH_number wsH_number rmH_number (jPre D (xT ca) (xC ca ad σ) (xN (va_A (xC ca ad σ) sz)) sz [.ref (ad 0), .int x1]) (jSi out) 0 0 (fun _ => False) := by
  refine Met.ofW (cc := cH_number) (maxL := 2) (ret := some .int) (by decide) rfl ?_
  intro p e s m args below meth c s₁ B hml hv
  obtain ⟨rfl, hsz, hP, hK, hD0, hN⟩ := hv
  subst hsz
  have hl := lv_entry [.ref (ad 0), .int x1] (n := 2) (Nat.le_of_ble_eq_true rfl)
  rw [lg_entry_eq]
  generalize (lg_sl [.ref (ad 0), .int x1] ++ List.replicate (2 - (lg_sl [.ref (ad 0), .int x1]).length) Slot.unset).toArray = ls at hl ⊢
  exact bH_number (fun q h => Or.inr h) ⟨B.exec, B.bytes, hml, findClass_of_methodNamed B.named, fun w h => atoms_spec (ws := wsH_number) B.pre w (List.mem_cons_of_mem _ h)⟩ hN B.returns B.notSynchronized out σ x1 ls hl ⟨hP, hD0.self, va_S.rf, hK⟩ hf

def rmH_last : Room := { frames := 0, cells := 0, slots := 0, locals := 0 }
def mH_last (σ : JS)  : Option (Int32) :=
  some (σ 100 0)
set_option maxHeartbeats 4000000 in
set_option maxRecDepth 100000 in
theorem bH_last {p : Program} {l : Launch} {e : Env} {s : State} {m : MethodId} {args : Array Value} {below : List Frame} {meth : Method} {c : Code} {D : va_G} {ca : Nat → ClassId} {ad : Nat → Nat} {A : Nat → Prop} (hA : ∀ q, s.heap.size ≤ q → A q) (S : CallFix p m c cH_last 1 s args jall RH) (hN : xN A s) (hr : meth.sig.returnType = some .int) (hlk : meth.locks = false) (out : Int32) (σ : JS)  (ls : Array Slot) (hl : lv_has ls 1 [(0, .ref (ad 0))]) (hw : jH D (xT ca) (xC ca ad σ) A s.heap s.heap [] s) (hf : mH_last σ  = some out) : W p l e (headSpec wsH_last rmH_last).room s m args below meth c s.heap [] 0 0 (MQ below (jSi out) args s 0 0 (fun _ => False)) (F0 m 0 ls []) := by
  have hx := S.1
  have hb := S.2.1
  unfold mH_last at hf
  refine lv_aload_n (pc := 0) hx hb dH_last_0 rfl (lv_at hl 0 rfl) ?_
  refine j_get (pc := 1) (v := .ref (ad 1)) S hw inH 0 0 0 xg_0 rfl (by decide) k_162 rfl dH_last_1 ?_
  refine j_get (pc := 4) (v := .int (σ 100 0)) S hw inJ 1 1 9 xg_1 rfl (by decide) k_50 rfl dH_last_4 ?_
  obtain rfl := jsm hf
  exact j_ipr (pc := 7) S hr hlk dH_last_7
set_option maxHeartbeats 4000000 in
set_option maxRecDepth 100000 in
theorem kH_last (l : Launch) (D : va_G) (ca : Nat → ClassId) (ad : Nat → Nat) (sz : Nat) (σ : JS)  (out : Int32) (hf : mH_last σ  = some out) : Met l yH_last wsH_last rmH_last (jPre D (xT ca) (xC ca ad σ) (xN (va_A (xC ca ad σ) sz)) sz [.ref (ad 0)]) (jSi out) 0 0 (fun _ => False) := by
  refine Met.ofW (cc := cH_last) (maxL := 1) (ret := some .int) (by decide) rfl ?_
  intro p e s m args below meth c s₁ B hml hv
  obtain ⟨rfl, hsz, hP, hK, hD0, hN⟩ := hv
  subst hsz
  have hl := lv_entry [.ref (ad 0)] (n := 1) (Nat.le_of_ble_eq_true rfl)
  rw [lg_entry_eq]
  generalize (lg_sl [.ref (ad 0)] ++ List.replicate (1 - (lg_sl [.ref (ad 0)]).length) Slot.unset).toArray = ls at hl ⊢
  exact bH_last (fun q h => Or.inr h) ⟨B.exec, B.bytes, hml, findClass_of_methodNamed B.named, fun w h => atoms_spec (ws := wsH_last) B.pre w (List.mem_cons_of_mem _ h)⟩ hN B.returns B.notSynchronized out σ  ls hl ⟨hP, hD0.self, va_S.rf, hK⟩ hf

def rmH_boundary : Room := { frames := 1, cells := 0, slots := 0, locals := 22 }
def mH_boundary (σ : JS) (x1 : Int32) (x2 : Int32) : Option (Int32) :=
  jbn (mH_isFile σ x1) fun q1 =>
  if q1 = 0 then
  (some (0 : Int32))
  else
  (jbn (mJ_isBoundary σ x1 x2) fun q3 =>
  if q3 = 0 then
  (some (0 : Int32))
  else
  (some (1 : Int32)))
set_option maxHeartbeats 4000000 in
set_option maxRecDepth 100000 in
theorem bH_boundary {p : Program} {l : Launch} {e : Env} {s : State} {m : MethodId} {args : Array Value} {below : List Frame} {meth : Method} {c : Code} {D : va_G} {ca : Nat → ClassId} {ad : Nat → Nat} {A : Nat → Prop} (hA : ∀ q, s.heap.size ≤ q → A q) (S : CallFix p m c cH_boundary 3 s args jall RH) (hN : xN A s) (hr : meth.sig.returnType = some .boolean) (hlk : meth.locks = false) (out : Int32) (σ : JS) (x1 : Int32) (x2 : Int32) (ls : Array Slot) (hl : lv_has ls 3 [(0, .ref (ad 0)), (1, .int x1), (2, .int x2)]) (hw : jH D (xT ca) (xC ca ad σ) A s.heap s.heap [] s) (hf : mH_boundary σ x1 x2 = some out) : W p l e (headSpec wsH_boundary rmH_boundary).room s m args below meth c s.heap [] 0 0 (MQ below (jSi out) args s 0 0 (fun _ => False)) (F0 m 0 ls []) := by
  have hx := S.1
  have hb := S.2.1
  unfold mH_boundary at hf
  refine lv_aload_n (pc := 0) hx hb dH_boundary_0 rfl (lv_at hl 0 rfl) ?_
  refine lv_iload_n (pc := 1) hx hb dH_boundary_1 rfl (lv_at hl 1 rfl) ?_
  have hg := jbn_e hf; clear hf; obtain ⟨q1, h2, hf⟩ := hg
  refine j_cpi (pc := 2) (v := q1) (va_runV (As := [.int x1]) (rest := []) S (kH_isFile l D ca ad _ σ x1 q1 h2) (cwV 1 S.2.2.2.2 (jgV k_207 k_209 ks_0 k_1 k_210) rfl rfl rfl (by decide +kernel) ⟨Nat.le_of_ble_eq_true rfl, Nat.le_of_ble_eq_true rfl⟩) (j_preV (As := [.int x1]) hw xN_b (xN_to hN hw hA) rfl xg_0) rfl rfl hl.1 rfl (lv_room (Nat.le_of_ble_eq_true rfl)) dH_boundary_2 ⟨Nat.le_of_ble_eq_true rfl, Nat.le_of_ble_eq_true rfl⟩) ?_
  refine lv_if_eq (pc := 5) (tgt := 24) hx hb dH_boundary_5 (by decide) (fun hc => ?_) (fun hc => ?_)
  · replace hf := jit hf hc
    refine lv_iconst (pc := 24) (v := (0 : Int32)) hx hb dH_boundary_24 (by decide) ?_
    obtain rfl := jsm hf
    exact j_zpr (pc := 25) S hr hlk (Or.inl rfl) dH_boundary_25
  · replace hf := jif hf hc
    refine lv_aload_n (pc := 8) hx hb dH_boundary_8 rfl (lv_at hl 0 rfl) ?_
    refine j_get (pc := 9) (v := .ref (ad 1)) S hw inH 0 0 0 xg_0 rfl (by decide) k_162 rfl dH_boundary_9 ?_
    refine lv_iload_n (pc := 12) hx hb dH_boundary_12 rfl (lv_at hl 1 rfl) ?_
    refine lv_iload_n (pc := 13) hx hb dH_boundary_13 rfl (lv_at hl 2 rfl) ?_
    have hg := jbn_e hf; clear hf; obtain ⟨q3, h4, hf⟩ := hg
    refine j_cpi (pc := 14) (v := q3) (va_runV (As := [.int x1, .int x2]) (rest := []) S (kJ_isBoundary l D ca ad _ σ x1 x2 q3 h4) (cwV 2 S.2.2.2.2 (jgV k_231 k_232 k_233 k_2 k_234) rfl rfl rfl (by decide +kernel) ⟨Nat.le_of_ble_eq_true rfl, Nat.le_of_ble_eq_true rfl⟩) (j_preV (As := [.int x1, .int x2]) hw xN_b (xN_to hN hw hA) rfl xg_1) rfl rfl hl.1 rfl (lv_room (Nat.le_of_ble_eq_true rfl)) dH_boundary_14 ⟨Nat.le_of_ble_eq_true rfl, Nat.le_of_ble_eq_true rfl⟩) ?_
    refine lv_if_eq (pc := 17) (tgt := 24) hx hb dH_boundary_17 (by decide) (fun hc => ?_) (fun hc => ?_)
    · replace hf := jit hf hc
      refine lv_iconst (pc := 24) (v := (0 : Int32)) hx hb dH_boundary_24 (by decide) ?_
      obtain rfl := jsm hf
      exact j_zpr (pc := 25) S hr hlk (Or.inl rfl) dH_boundary_25
    · replace hf := jif hf hc
      refine lv_iconst (pc := 20) (v := (1 : Int32)) hx hb dH_boundary_20 (by decide) ?_
      refine lv_goto (pc := 21) (tgt := 25) hx hb dH_boundary_21 (by decide) ?_
      obtain rfl := jsm hf
      exact j_zpr (pc := 25) S hr hlk (Or.inr rfl) dH_boundary_25
set_option maxHeartbeats 4000000 in
set_option maxRecDepth 100000 in
theorem kH_boundary (l : Launch) (D : va_G) (ca : Nat → ClassId) (ad : Nat → Nat) (sz : Nat) (σ : JS) (x1 : Int32) (x2 : Int32) (out : Int32) (hf : mH_boundary σ x1 x2 = some out) : Met l yH_boundary wsH_boundary rmH_boundary (jPre D (xT ca) (xC ca ad σ) (xN (va_A (xC ca ad σ) sz)) sz [.ref (ad 0), .int x1, .int x2]) (jSi out) 0 0 (fun _ => False) := by
  refine Met.ofW (cc := cH_boundary) (maxL := 3) (ret := some .boolean) (by decide) rfl ?_
  intro p e s m args below meth c s₁ B hml hv
  obtain ⟨rfl, hsz, hP, hK, hD0, hN⟩ := hv
  subst hsz
  have hl := lv_entry [.ref (ad 0), .int x1, .int x2] (n := 3) (Nat.le_of_ble_eq_true rfl)
  rw [lg_entry_eq]
  generalize (lg_sl [.ref (ad 0), .int x1, .int x2] ++ List.replicate (3 - (lg_sl [.ref (ad 0), .int x1, .int x2]).length) Slot.unset).toArray = ls at hl ⊢
  exact bH_boundary (fun q h => Or.inr h) ⟨B.exec, B.bytes, hml, findClass_of_methodNamed B.named, fun w h => atoms_spec (ws := wsH_boundary) B.pre w (List.mem_cons_of_mem _ h)⟩ hN B.returns B.notSynchronized out σ x1 x2 ls hl ⟨hP, hD0.self, va_S.rf, hK⟩ hf

def rmH_partOfChange : Room := { frames := 1, cells := 0, slots := 0, locals := 20 }
def mH_partOfChange (σ : JS) (x1 : Int32) (x2 : Int32) : Option (Int64) :=
  if x2 = 2 then
  (jrd σ 8 121 x1 fun v1 =>
  jbn (mH_fileOf σ v1) fun q4 =>
  some q4.toInt64)
  else
  (if x2 = 3 then
  (jrd σ 8 121 x1 fun v6 =>
  jbn (mH_recordOf σ v6) fun q9 =>
  some q9.toInt64)
  else
  (if x2 = 4 then
  (jrd σ 9 121 x1 fun v11 =>
  some v11.toInt64)
  else
  (if x2 = 5 then
  (jrd σ 10 121 x1 fun v14 =>
  some v14.toInt64)
  else
  (some (1099511627776 : Int64)))))
set_option maxHeartbeats 4000000 in
set_option maxRecDepth 100000 in
theorem bH_partOfChange {p : Program} {l : Launch} {e : Env} {s : State} {m : MethodId} {args : Array Value} {below : List Frame} {meth : Method} {c : Code} {D : va_G} {ca : Nat → ClassId} {ad : Nat → Nat} {A : Nat → Prop} (hA : ∀ q, s.heap.size ≤ q → A q) (S : CallFix p m c cH_partOfChange 3 s args jall RH) (hN : xN A s) (hr : meth.sig.returnType = some .long) (hlk : meth.locks = false) (out : Int64) (σ : JS) (x1 : Int32) (x2 : Int32) (ls : Array Slot) (hl : lv_has ls 3 [(0, .ref (ad 0)), (1, .int x1), (2, .int x2)]) (hw : jH D (xT ca) (xC ca ad σ) A s.heap s.heap [] s) (hf : mH_partOfChange σ x1 x2 = some out) : W p l e (headSpec wsH_partOfChange rmH_partOfChange).room s m args below meth c s.heap [] 0 0 (MQ below (jSl out) args s 0 0 (fun _ => False)) (F0 m 0 ls []) := by
  have hx := S.1
  have hb := S.2.1
  unfold mH_partOfChange at hf
  refine lv_iload_n (pc := 0) hx hb dH_partOfChange_0 rfl (lv_at hl 2 rfl) ?_
  by_cases hs0 : x2 = (2 : Int32)
  · replace hf := jit hf hs0
    refine lv_tableIn (pc := 1) (tgt := 32) hx hb dH_partOfChange_1 (by rw [hs0]; decide) (by rw [hs0]; decide) (by rw [hs0]; rfl) (by decide) ?_
    refine lv_aload_n (pc := 32) hx hb dH_partOfChange_32 rfl (lv_at hl 0 rfl) ?_
    refine j_get (pc := 33) (v := .ref (ad 1)) S hw inH 0 0 0 xg_0 rfl (by decide) k_162 rfl dH_partOfChange_33 ?_
    refine j_get (pc := 36) (v := .ref (ad 8)) S hw inJ 1 1 2 xg_1 rfl (by decide) k_37 rfl dH_partOfChange_36 ?_
    refine lv_iload_n (pc := 39) hx hb dH_partOfChange_39 rfl (lv_at hl 1 rfl) ?_
    have hg := jrd_e hf; clear hf; obtain ⟨h2, v1, e3, hf⟩ := hg
    refine j_iald (pc := 40) S hw 8 2 xg_8 xt_8 h2 e3 dH_partOfChange_40 ?_
    have hg := jbn_e hf; clear hf; obtain ⟨q4, h5, hf⟩ := hg
    refine j_cpi (pc := 41) (v := q4) (va_runS (As := [.int v1]) (rest := []) S (kH_fileOf l D ca ad _ σ v1 q4 h5) (cwS 1 S.2.2.2.2 (jgS k_251 k_252 k_1 k_253) rfl rfl rfl (by decide +kernel) ⟨Nat.le_of_ble_eq_true rfl, Nat.le_of_ble_eq_true rfl⟩) (j_preS hw xN_b (xN_to hN hw hA)) rfl rfl hl.1 rfl (lv_room (Nat.le_of_ble_eq_true rfl)) dH_partOfChange_41 ⟨Nat.le_of_ble_eq_true rfl, Nat.le_of_ble_eq_true rfl⟩) ?_
    refine lv_i2l (pc := 44) (v := q4.toInt64) hx hb dH_partOfChange_44 rfl ?_
    obtain rfl := jsm hf
    exact j_lpr (pc := 45) S hr hlk dH_partOfChange_45
  · replace hf := jif hf hs0
    by_cases hs1 : x2 = (3 : Int32)
    · replace hf := jit hf hs1
      refine lv_tableIn (pc := 1) (tgt := 46) hx hb dH_partOfChange_1 (by rw [hs1]; decide) (by rw [hs1]; decide) (by rw [hs1]; rfl) (by decide) ?_
      refine lv_aload_n (pc := 46) hx hb dH_partOfChange_46 rfl (lv_at hl 0 rfl) ?_
      refine j_get (pc := 47) (v := .ref (ad 1)) S hw inH 0 0 0 xg_0 rfl (by decide) k_162 rfl dH_partOfChange_47 ?_
      refine j_get (pc := 50) (v := .ref (ad 8)) S hw inJ 1 1 2 xg_1 rfl (by decide) k_37 rfl dH_partOfChange_50 ?_
      refine lv_iload_n (pc := 53) hx hb dH_partOfChange_53 rfl (lv_at hl 1 rfl) ?_
      have hg := jrd_e hf; clear hf; obtain ⟨h7, v6, e8, hf⟩ := hg
      refine j_iald (pc := 54) S hw 8 2 xg_8 xt_8 h7 e8 dH_partOfChange_54 ?_
      have hg := jbn_e hf; clear hf; obtain ⟨q9, h10, hf⟩ := hg
      refine j_cpi (pc := 55) (v := q9) (va_runS (As := [.int v6]) (rest := []) S (kH_recordOf l D ca ad _ σ v6 q9 h10) (cwS 1 S.2.2.2.2 (jgS k_254 k_255 k_1 k_256) rfl rfl rfl (by decide +kernel) ⟨Nat.le_of_ble_eq_true rfl, Nat.le_of_ble_eq_true rfl⟩) (j_preS hw xN_b (xN_to hN hw hA)) rfl rfl hl.1 rfl (lv_room (Nat.le_of_ble_eq_true rfl)) dH_partOfChange_55 ⟨Nat.le_of_ble_eq_true rfl, Nat.le_of_ble_eq_true rfl⟩) ?_
      refine lv_i2l (pc := 58) (v := q9.toInt64) hx hb dH_partOfChange_58 rfl ?_
      obtain rfl := jsm hf
      exact j_lpr (pc := 59) S hr hlk dH_partOfChange_59
    · replace hf := jif hf hs1
      by_cases hs2 : x2 = (4 : Int32)
      · replace hf := jit hf hs2
        refine lv_tableIn (pc := 1) (tgt := 60) hx hb dH_partOfChange_1 (by rw [hs2]; decide) (by rw [hs2]; decide) (by rw [hs2]; rfl) (by decide) ?_
        refine lv_aload_n (pc := 60) hx hb dH_partOfChange_60 rfl (lv_at hl 0 rfl) ?_
        refine j_get (pc := 61) (v := .ref (ad 1)) S hw inH 0 0 0 xg_0 rfl (by decide) k_162 rfl dH_partOfChange_61 ?_
        refine j_get (pc := 64) (v := .ref (ad 9)) S hw inJ 1 1 3 xg_1 rfl (by decide) k_40 rfl dH_partOfChange_64 ?_
        refine lv_iload_n (pc := 67) hx hb dH_partOfChange_67 rfl (lv_at hl 1 rfl) ?_
        have hg := jrd_e hf; clear hf; obtain ⟨h12, v11, e13, hf⟩ := hg
        refine j_iald (pc := 68) S hw 9 3 xg_9 xt_9 h12 e13 dH_partOfChange_68 ?_
        refine lv_i2l (pc := 69) (v := v11.toInt64) hx hb dH_partOfChange_69 rfl ?_
        obtain rfl := jsm hf
        exact j_lpr (pc := 70) S hr hlk dH_partOfChange_70
      · replace hf := jif hf hs2
        by_cases hs3 : x2 = (5 : Int32)
        · replace hf := jit hf hs3
          refine lv_tableIn (pc := 1) (tgt := 71) hx hb dH_partOfChange_1 (by rw [hs3]; decide) (by rw [hs3]; decide) (by rw [hs3]; rfl) (by decide) ?_
          refine lv_aload_n (pc := 71) hx hb dH_partOfChange_71 rfl (lv_at hl 0 rfl) ?_
          refine j_get (pc := 72) (v := .ref (ad 1)) S hw inH 0 0 0 xg_0 rfl (by decide) k_162 rfl dH_partOfChange_72 ?_
          refine j_get (pc := 75) (v := .ref (ad 10)) S hw inJ 1 1 4 xg_1 rfl (by decide) k_43 rfl dH_partOfChange_75 ?_
          refine lv_iload_n (pc := 78) hx hb dH_partOfChange_78 rfl (lv_at hl 1 rfl) ?_
          have hg := jrd_e hf; clear hf; obtain ⟨h15, v14, e16, hf⟩ := hg
          refine j_iald (pc := 79) S hw 10 4 xg_10 xt_10 h15 e16 dH_partOfChange_79 ?_
          refine lv_i2l (pc := 80) (v := v14.toInt64) hx hb dH_partOfChange_80 rfl ?_
          obtain rfl := jsm hf
          exact j_lpr (pc := 81) S hr hlk dH_partOfChange_81
        · replace hf := jif hf hs3
          refine lv_tableOut (pc := 1) (tgt := 82) hx hb dH_partOfChange_1 (by have h0 := lv_neT hs0 (a := 2) (by decide); have h0 := lv_neT hs1 (a := 3) (by decide); have h0 := lv_neT hs2 (a := 4) (by decide); have h0 := lv_neT hs3 (a := 5) (by decide); omega) (by decide) ?_
          refine lv_ldc2 (pc := 82) (v := (1099511627776 : Int64)) hx hb S.2.2.2.1 (S.2.2.2.2 _ k_214) dH_partOfChange_82 ?_
          obtain rfl := jsm hf
          exact j_lpr (pc := 85) S hr hlk dH_partOfChange_85
set_option maxHeartbeats 4000000 in
set_option maxRecDepth 100000 in
theorem kH_partOfChange (l : Launch) (D : va_G) (ca : Nat → ClassId) (ad : Nat → Nat) (sz : Nat) (σ : JS) (x1 : Int32) (x2 : Int32) (out : Int64) (hf : mH_partOfChange σ x1 x2 = some out) : Met l yH_partOfChange wsH_partOfChange rmH_partOfChange (jPre D (xT ca) (xC ca ad σ) (xN (va_A (xC ca ad σ) sz)) sz [.ref (ad 0), .int x1, .int x2]) (jSl out) 0 0 (fun _ => False) := by
  refine Met.ofW (cc := cH_partOfChange) (maxL := 3) (ret := some .long) (by decide) rfl ?_
  intro p e s m args below meth c s₁ B hml hv
  obtain ⟨rfl, hsz, hP, hK, hD0, hN⟩ := hv
  subst hsz
  have hl := lv_entry [.ref (ad 0), .int x1, .int x2] (n := 3) (Nat.le_of_ble_eq_true rfl)
  rw [lg_entry_eq]
  generalize (lg_sl [.ref (ad 0), .int x1, .int x2] ++ List.replicate (3 - (lg_sl [.ref (ad 0), .int x1, .int x2]).length) Slot.unset).toArray = ls at hl ⊢
  exact bH_partOfChange (fun q h => Or.inr h) ⟨B.exec, B.bytes, hml, findClass_of_methodNamed B.named, fun w h => atoms_spec (ws := wsH_partOfChange) B.pre w (List.mem_cons_of_mem _ h)⟩ hN B.returns B.notSynchronized out σ x1 x2 ls hl ⟨hP, hD0.self, va_S.rf, hK⟩ hf

def rmH_entry : Room := { frames := 2, cells := 0, slots := 0, locals := 42 }
def mH_entry (σ : JS) (x1 : Int32) (x2 : Int32) : Option (Int64) :=
  jbn (mJ_isKept σ x1) fun q1 =>
  if q1 = 0 then
  (some (1099511627776 : Int64))
  else
  (if x2 = 0 then
  (jrd σ 6 121 x1 fun v3 =>
  some v3.toInt64)
  else
  (if x2 = 1 then
  (jrd σ 7 121 x1 fun v6 =>
  some v6.toInt64)
  else
  (jrd σ 6 121 x1 fun v9 =>
  if v9 = (1 : Int32) then
  (jbn (mH_partOfChange σ x1 x2) fun q12 =>
  some q12)
  else
  (some (1099511627776 : Int64)))))
set_option maxHeartbeats 4000000 in
set_option maxRecDepth 100000 in
theorem bH_entry {p : Program} {l : Launch} {e : Env} {s : State} {m : MethodId} {args : Array Value} {below : List Frame} {meth : Method} {c : Code} {D : va_G} {ca : Nat → ClassId} {ad : Nat → Nat} {A : Nat → Prop} (hA : ∀ q, s.heap.size ≤ q → A q) (S : CallFix p m c cH_entry 3 s args jall RH) (hN : xN A s) (hr : meth.sig.returnType = some .long) (hlk : meth.locks = false) (out : Int64) (σ : JS) (x1 : Int32) (x2 : Int32) (ls : Array Slot) (hl : lv_has ls 3 [(0, .ref (ad 0)), (1, .int x1), (2, .int x2)]) (hw : jH D (xT ca) (xC ca ad σ) A s.heap s.heap [] s) (hf : mH_entry σ x1 x2 = some out) : W p l e (headSpec wsH_entry rmH_entry).room s m args below meth c s.heap [] 0 0 (MQ below (jSl out) args s 0 0 (fun _ => False)) (F0 m 0 ls []) := by
  have hx := S.1
  have hb := S.2.1
  unfold mH_entry at hf
  refine lv_aload_n (pc := 0) hx hb dH_entry_0 rfl (lv_at hl 0 rfl) ?_
  refine j_get (pc := 1) (v := .ref (ad 1)) S hw inH 0 0 0 xg_0 rfl (by decide) k_162 rfl dH_entry_1 ?_
  refine lv_iload_n (pc := 4) hx hb dH_entry_4 rfl (lv_at hl 1 rfl) ?_
  have hg := jbn_e hf; clear hf; obtain ⟨q1, h2, hf⟩ := hg
  refine j_cpi (pc := 5) (v := q1) (va_runV (As := [.int x1]) (rest := []) S (kJ_isKept l D ca ad _ σ x1 q1 h2) (cwV 1 S.2.2.2.2 (jgV k_239 k_240 k_241 k_2 k_242) rfl rfl rfl (by decide +kernel) ⟨Nat.le_of_ble_eq_true rfl, Nat.le_of_ble_eq_true rfl⟩) (j_preV (As := [.int x1]) hw xN_b (xN_to hN hw hA) rfl xg_1) rfl rfl hl.1 rfl (lv_room (Nat.le_of_ble_eq_true rfl)) dH_entry_5 ⟨Nat.le_of_ble_eq_true rfl, Nat.le_of_ble_eq_true rfl⟩) ?_
  refine lv_if_ne (pc := 8) (tgt := 15) hx hb dH_entry_8 (by decide) (fun hc => ?_) (fun hc => ?_)
  · replace hf := jif hf hc
    refine lv_iload_n (pc := 15) hx hb dH_entry_15 rfl (lv_at hl 2 rfl) ?_
    by_cases hs0 : x2 = (0 : Int32)
    · replace hf := jit hf hs0
      refine lv_lookup (pc := 16) (tgt := 44) (off := 28) hx hb dH_entry_16 (by decide) (by rw [hs0]; try rfl) (by decide) ?_
      refine lv_aload_n (pc := 44) hx hb dH_entry_44 rfl (lv_at hl 0 rfl) ?_
      refine j_get (pc := 45) (v := .ref (ad 1)) S hw inH 0 0 0 xg_0 rfl (by decide) k_162 rfl dH_entry_45 ?_
      refine j_get (pc := 48) (v := .ref (ad 6)) S hw inJ 1 1 0 xg_1 rfl (by decide) k_31 rfl dH_entry_48 ?_
      refine lv_iload_n (pc := 51) hx hb dH_entry_51 rfl (lv_at hl 1 rfl) ?_
      have hg := jrd_e hf; clear hf; obtain ⟨h4, v3, e5, hf⟩ := hg
      refine j_iald (pc := 52) S hw 6 0 xg_6 xt_6 h4 e5 dH_entry_52 ?_
      refine lv_i2l (pc := 53) (v := v3.toInt64) hx hb dH_entry_53 rfl ?_
      obtain rfl := jsm hf
      exact j_lpr (pc := 54) S hr hlk dH_entry_54
    · replace hf := jif hf hs0
      by_cases hs1 : x2 = (1 : Int32)
      · replace hf := jit hf hs1
        refine lv_lookup (pc := 16) (tgt := 55) (off := 39) hx hb dH_entry_16 (by decide) (by rw [hs1]; try rfl) (by decide) ?_
        refine lv_aload_n (pc := 55) hx hb dH_entry_55 rfl (lv_at hl 0 rfl) ?_
        refine j_get (pc := 56) (v := .ref (ad 1)) S hw inH 0 0 0 xg_0 rfl (by decide) k_162 rfl dH_entry_56 ?_
        refine j_get (pc := 59) (v := .ref (ad 7)) S hw inJ 1 1 1 xg_1 rfl (by decide) k_34 rfl dH_entry_59 ?_
        refine lv_iload_n (pc := 62) hx hb dH_entry_62 rfl (lv_at hl 1 rfl) ?_
        have hg := jrd_e hf; clear hf; obtain ⟨h7, v6, e8, hf⟩ := hg
        refine j_iald (pc := 63) S hw 7 1 xg_7 xt_7 h7 e8 dH_entry_63 ?_
        refine lv_i2l (pc := 64) (v := v6.toInt64) hx hb dH_entry_64 rfl ?_
        obtain rfl := jsm hf
        exact j_lpr (pc := 65) S hr hlk dH_entry_65
      · replace hf := jif hf hs1
        refine lv_lookup (pc := 16) (tgt := 66) (off := 50) hx hb dH_entry_16 (by decide) (by rw [lv_osw hs0 (by decide)]; rw [lv_osw hs1 (by decide)]; try rfl) (by decide) ?_
        refine lv_aload_n (pc := 66) hx hb dH_entry_66 rfl (lv_at hl 0 rfl) ?_
        refine j_get (pc := 67) (v := .ref (ad 1)) S hw inH 0 0 0 xg_0 rfl (by decide) k_162 rfl dH_entry_67 ?_
        refine j_get (pc := 70) (v := .ref (ad 6)) S hw inJ 1 1 0 xg_1 rfl (by decide) k_31 rfl dH_entry_70 ?_
        refine lv_iload_n (pc := 73) hx hb dH_entry_73 rfl (lv_at hl 1 rfl) ?_
        have hg := jrd_e hf; clear hf; obtain ⟨h10, v9, e11, hf⟩ := hg
        refine j_iald (pc := 74) S hw 6 0 xg_6 xt_6 h10 e11 dH_entry_74 ?_
        refine lv_iconst (pc := 75) (v := (1 : Int32)) hx hb dH_entry_75 (by decide) ?_
        refine lv_icmp_ne (pc := 76) (tgt := 88) hx hb dH_entry_76 (by decide) (fun hc => ?_) (fun hc => ?_)
        · replace hf := jif hf hc
          refine lv_ldc2 (pc := 88) (v := (1099511627776 : Int64)) hx hb S.2.2.2.1 (S.2.2.2.2 _ k_214) dH_entry_88 ?_
          obtain rfl := jsm hf
          exact j_lpr (pc := 91) S hr hlk dH_entry_91
        · replace hf := jit hf hc
          refine lv_aload_n (pc := 79) hx hb dH_entry_79 rfl (lv_at hl 0 rfl) ?_
          refine lv_iload_n (pc := 80) hx hb dH_entry_80 rfl (lv_at hl 1 rfl) ?_
          refine lv_iload_n (pc := 81) hx hb dH_entry_81 rfl (lv_at hl 2 rfl) ?_
          have hg := jbn_e hf; clear hf; obtain ⟨q12, h13, hf⟩ := hg
          refine j_cpl (pc := 82) (v := q12) (va_runV (As := [.int x1, .int x2]) (rest := []) S (kH_partOfChange l D ca ad _ σ x1 x2 q12 h13) (cwV 2 S.2.2.2.2 (jgV k_247 k_249 ks_16 k_1 k_250) rfl rfl rfl (by decide +kernel) ⟨Nat.le_of_ble_eq_true rfl, Nat.le_of_ble_eq_true rfl⟩) (j_preV (As := [.int x1, .int x2]) hw xN_b (xN_to hN hw hA) rfl xg_0) rfl rfl hl.1 rfl (lv_room (Nat.le_of_ble_eq_true rfl)) dH_entry_82 ⟨Nat.le_of_ble_eq_true rfl, Nat.le_of_ble_eq_true rfl⟩) ?_
          refine lv_goto (pc := 85) (tgt := 91) hx hb dH_entry_85 (by decide) ?_
          obtain rfl := jsm hf
          exact j_lpr (pc := 91) S hr hlk dH_entry_91
  · replace hf := jit hf hc
    refine lv_ldc2 (pc := 11) (v := (1099511627776 : Int64)) hx hb S.2.2.2.1 (S.2.2.2.2 _ k_214) dH_entry_11 ?_
    obtain rfl := jsm hf
    exact j_lpr (pc := 14) S hr hlk dH_entry_14
set_option maxHeartbeats 4000000 in
set_option maxRecDepth 100000 in
theorem kH_entry (l : Launch) (D : va_G) (ca : Nat → ClassId) (ad : Nat → Nat) (sz : Nat) (σ : JS) (x1 : Int32) (x2 : Int32) (out : Int64) (hf : mH_entry σ x1 x2 = some out) : Met l yH_entry wsH_entry rmH_entry (jPre D (xT ca) (xC ca ad σ) (xN (va_A (xC ca ad σ) sz)) sz [.ref (ad 0), .int x1, .int x2]) (jSl out) 0 0 (fun _ => False) := by
  refine Met.ofW (cc := cH_entry) (maxL := 3) (ret := some .long) (by decide) rfl ?_
  intro p e s m args below meth c s₁ B hml hv
  obtain ⟨rfl, hsz, hP, hK, hD0, hN⟩ := hv
  subst hsz
  have hl := lv_entry [.ref (ad 0), .int x1, .int x2] (n := 3) (Nat.le_of_ble_eq_true rfl)
  rw [lg_entry_eq]
  generalize (lg_sl [.ref (ad 0), .int x1, .int x2] ++ List.replicate (3 - (lg_sl [.ref (ad 0), .int x1, .int x2]).length) Slot.unset).toArray = ls at hl ⊢
  exact bH_entry (fun q h => Or.inr h) ⟨B.exec, B.bytes, hml, findClass_of_methodNamed B.named, fun w h => atoms_spec (ws := wsH_entry) B.pre w (List.mem_cons_of_mem _ h)⟩ hN B.returns B.notSynchronized out σ x1 x2 ls hl ⟨hP, hD0.self, va_S.rf, hK⟩ hf

def rmJ_endOfOldest : Room := { frames := 0, cells := 0, slots := 0, locals := 0 }
def mJ_endOfOldest (σ : JS)  : Option (Int32) :=
  some (((σ 100 1) + (1 : Int32)) * (8 : Int32))
set_option maxHeartbeats 4000000 in
set_option maxRecDepth 100000 in
theorem bJ_endOfOldest {p : Program} {l : Launch} {e : Env} {s : State} {m : MethodId} {args : Array Value} {below : List Frame} {meth : Method} {c : Code} {D : va_G} {ca : Nat → ClassId} {ad : Nat → Nat} {A : Nat → Prop} (hA : ∀ q, s.heap.size ≤ q → A q) (S : CallFix p m c cJ_endOfOldest 1 s args jall RJ) (hN : xN A s) (hr : meth.sig.returnType = some .int) (hlk : meth.locks = false) (out : Int32) (σ : JS)  (ls : Array Slot) (hl : lv_has ls 1 [(0, .ref (ad 1))]) (hw : jH D (xT ca) (xC ca ad σ) A s.heap s.heap [] s) (hf : mJ_endOfOldest σ  = some out) : W p l e (headSpec wsJ_endOfOldest rmJ_endOfOldest).room s m args below meth c s.heap [] 0 0 (MQ below (jSi out) args s 0 0 (fun _ => False)) (F0 m 0 ls []) := by
  have hx := S.1
  have hb := S.2.1
  unfold mJ_endOfOldest at hf
  refine lv_aload_n (pc := 0) hx hb dJ_endOfOldest_0 rfl (lv_at hl 0 rfl) ?_
  refine j_get (pc := 1) (v := .int (σ 100 1)) S hw inJ 1 1 10 xg_1 rfl (by decide) k_51 rfl dJ_endOfOldest_1 ?_
  refine lv_iconst (pc := 4) (v := (1 : Int32)) hx hb dJ_endOfOldest_4 (by decide) ?_
  refine lv_iadd (pc := 5) hx hb dJ_endOfOldest_5 ?_
  refine lv_bipush (pc := 6) (v := (8 : Int32)) hx hb dJ_endOfOldest_6 (by decide) ?_
  refine lv_imul (pc := 8) hx hb dJ_endOfOldest_8 ?_
  obtain rfl := jsm hf
  exact j_ipr (pc := 9) S hr hlk dJ_endOfOldest_9
set_option maxHeartbeats 4000000 in
set_option maxRecDepth 100000 in
theorem kJ_endOfOldest (l : Launch) (D : va_G) (ca : Nat → ClassId) (ad : Nat → Nat) (sz : Nat) (σ : JS)  (out : Int32) (hf : mJ_endOfOldest σ  = some out) : Met l yJ_endOfOldest wsJ_endOfOldest rmJ_endOfOldest (jPre D (xT ca) (xC ca ad σ) (xN (va_A (xC ca ad σ) sz)) sz [.ref (ad 1)]) (jSi out) 0 0 (fun _ => False) := by
  refine Met.ofW (cc := cJ_endOfOldest) (maxL := 1) (ret := some .int) (by decide) rfl ?_
  intro p e s m args below meth c s₁ B hml hv
  obtain ⟨rfl, hsz, hP, hK, hD0, hN⟩ := hv
  subst hsz
  have hl := lv_entry [.ref (ad 1)] (n := 1) (Nat.le_of_ble_eq_true rfl)
  rw [lg_entry_eq]
  generalize (lg_sl [.ref (ad 1)] ++ List.replicate (1 - (lg_sl [.ref (ad 1)]).length) Slot.unset).toArray = ls at hl ⊢
  exact bJ_endOfOldest (fun q h => Or.inr h) ⟨B.exec, B.bytes, hml, findClass_of_methodNamed B.named, fun w h => atoms_spec (ws := wsJ_endOfOldest) B.pre w (List.mem_cons_of_mem _ h)⟩ hN B.returns B.notSynchronized out σ  ls hl ⟨hP, hD0.self, va_S.rf, hK⟩ hf

