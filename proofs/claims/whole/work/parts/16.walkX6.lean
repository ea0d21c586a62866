def rmJ_canDropOldest : Room := { frames := 1, cells := 0, slots := 0, locals := 21 }
def mJ_canDropOldest_L2 (k : Int32 → Option (Int32)) (σ : JS) : Nat → Int32 → Option (Int32)
  | 0, _ => none
  | n + 1, x1 =>
    if (3 : Int32) ≤ x1 then
    (k x1)
    else
    (jbn (mJ_isCycleOpen σ x1) fun q1 =>
    if q1 = 0 then
    (mJ_canDropOldest_L2 k σ n (x1 + 1))
    else
    (jrd σ 12 4 x1 fun v3 =>
    jbn (mJ_endOfOldest σ ) fun q6 =>
    if q6 < v3 then
    (mJ_canDropOldest_L2 k σ n (x1 + 1))
    else
    (some (0 : Int32))))
def mJ_canDropOldest (σ : JS)  : Option (Int32) :=
  mJ_canDropOldest_L2 (fun z8 =>
  jbn (mJ_endOfOldest σ ) fun q9 =>
  if (σ 100 0) < q9 then
  (some (0 : Int32))
  else
  (some (1 : Int32))) σ 999 (0 : Int32)
set_option maxHeartbeats 4000000 in
set_option maxRecDepth 100000 in
theorem wmJ_canDropOldest_L2 {p : Program} {l : Launch} {e : Env} {s : State} {m : MethodId} {args : Array Value} {below : List Frame} {meth : Method} {c : Code} {D : va_G} {ca : Nat → ClassId} {ad : Nat → Nat} {A : Nat → Prop} (hA : ∀ q, s.heap.size ≤ q → A q) (S : CallFix p m c cJ_canDropOldest 2 s args jall RJ) (hN : xN A s) (hr : meth.sig.returnType = some .boolean) (hlk : meth.locks = false) (out : Int32) (k : Int32 → Option (Int32)) (σ : JS) (hk : ∀ (x1 : Int32) (ls : Array Slot) , lv_has ls 2 [(0, .ref (ad 1)), (1, .int x1)] → jH D (xT ca) (xC ca ad σ) A s.heap s.heap [] s → k x1 = some out → W p l e (headSpec wsJ_canDropOldest rmJ_canDropOldest).room s m args below meth c s.heap [] 0 0 (MQ below (jSi out) args s 0 0 (fun _ => False)) (F0 m 36 ls [])) : ∀ (n : Nat) (x1 : Int32) (ls : Array Slot) , lv_has ls 2 [(0, .ref (ad 1)), (1, .int x1)] → jH D (xT ca) (xC ca ad σ) A s.heap s.heap [] s → mJ_canDropOldest_L2 k σ n x1 = some out → W p l e (headSpec wsJ_canDropOldest rmJ_canDropOldest).room s m args below meth c s.heap [] 0 0 (MQ below (jSi out) args s 0 0 (fun _ => False)) (F0 m 2 ls []) := by
  have hx := S.1
  have hb := S.2.1
  intro n
  induction n with
  | zero => intro x1 ls hl hw hf; cases hf
  | succ n ih =>
    intro x1 ls hl hw hf
    rw [mJ_canDropOldest_L2] at hf
    refine lv_iload_n (pc := 2) hx hb dJ_canDropOldest_2 rfl (lv_at hl 1 rfl) ?_
    refine lv_iconst (pc := 3) (v := (3 : Int32)) hx hb dJ_canDropOldest_3 (by decide) ?_
    refine lv_icmp_ge (pc := 4) (tgt := 36) hx hb dJ_canDropOldest_4 (by decide) (fun hc => ?_) (fun hc => ?_)
    · replace hf := jit hf hc
      exact hk x1 _ (lv_sub hl [0, 1] rfl) hw hf
    · replace hf := jif hf hc
      refine lv_aload_n (pc := 7) hx hb dJ_canDropOldest_7 rfl (lv_at hl 0 rfl) ?_
      refine lv_iload_n (pc := 8) hx hb dJ_canDropOldest_8 rfl (lv_at hl 1 rfl) ?_
      have hg := jbn_e hf; clear hf; obtain ⟨q1, h2, hf⟩ := hg
      refine j_cpi (pc := 9) (v := q1) (va_runV (As := [.int x1]) (rest := []) S (kJ_isCycleOpen l D ca ad _ σ x1 q1 h2) (cwV 1 S.2.2.2.2 (jgV k_374 k_375 k_376 k_2 k_377) rfl rfl rfl (by decide +kernel) ⟨Nat.le_of_ble_eq_true rfl, Nat.le_of_ble_eq_true rfl⟩) (j_preV (As := [.int x1]) hw xN_b (xN_to hN hw hA) rfl xg_1) rfl rfl hl.1 rfl (lv_room (Nat.le_of_ble_eq_true rfl)) dJ_canDropOldest_9 ⟨Nat.le_of_ble_eq_true rfl, Nat.le_of_ble_eq_true rfl⟩) ?_
      refine lv_if_eq (pc := 12) (tgt := 30) hx hb dJ_canDropOldest_12 (by decide) (fun hc => ?_) (fun hc => ?_)
      · replace hf := jit hf hc
        refine lv_iinc (pc := 30) (v := (x1 + 1)) (k := 1) (lv' := [(1, .int (x1 + 1)), (0, .ref (ad 1))]) hx hb dJ_canDropOldest_30 hl rfl (j_inc _ (by decide)) (by decide) rfl (fun ls hl => ?_)
        refine lv_goto (pc := 33) (tgt := 2) hx hb dJ_canDropOldest_33 (by decide) ?_
        exact ih (x1 + 1) _ (lv_sub hl [1, 0] rfl) hw hf
      · replace hf := jif hf hc
        refine lv_aload_n (pc := 15) hx hb dJ_canDropOldest_15 rfl (lv_at hl 0 rfl) ?_
        refine j_get (pc := 16) (v := .ref (ad 12)) S hw inJ 1 1 6 xg_1 rfl (by decide) k_45 rfl dJ_canDropOldest_16 ?_
        refine lv_iload_n (pc := 19) hx hb dJ_canDropOldest_19 rfl (lv_at hl 1 rfl) ?_
        have hg := jrd_e hf; clear hf; obtain ⟨h4, v3, e5, hf⟩ := hg
        refine j_iald (pc := 20) S hw 12 6 xg_12 xt_12 h4 e5 dJ_canDropOldest_20 ?_
        refine lv_aload_n (pc := 21) hx hb dJ_canDropOldest_21 rfl (lv_at hl 0 rfl) ?_
        have hg := jbn_e hf; clear hf; obtain ⟨q6, h7, hf⟩ := hg
        refine j_cpi (pc := 22) (v := q6) (va_runV (As := []) (rest := [.int v3]) S (kJ_endOfOldest l D ca ad _ σ  q6 h7) (cwV 0 S.2.2.2.2 (jgV k_526 k_527 k_528 k_2 k_529) rfl rfl rfl (by decide +kernel) ⟨Nat.le_of_ble_eq_true rfl, Nat.le_of_ble_eq_true rfl⟩) (j_preV (As := []) hw xN_b (xN_to hN hw hA) rfl xg_1) rfl rfl hl.1 rfl (lv_room (Nat.le_of_ble_eq_true rfl)) dJ_canDropOldest_22 ⟨Nat.le_of_ble_eq_true rfl, Nat.le_of_ble_eq_true rfl⟩) ?_
        refine lv_icmp_gt (pc := 25) (tgt := 30) hx hb dJ_canDropOldest_25 (by decide) (fun hc => ?_) (fun hc => ?_)
        · replace hf := jit hf hc
          refine lv_iinc (pc := 30) (v := (x1 + 1)) (k := 1) (lv' := [(1, .int (x1 + 1)), (0, .ref (ad 1))]) hx hb dJ_canDropOldest_30 hl rfl (j_inc _ (by decide)) (by decide) rfl (fun ls hl => ?_)
          refine lv_goto (pc := 33) (tgt := 2) hx hb dJ_canDropOldest_33 (by decide) ?_
          exact ih (x1 + 1) _ (lv_sub hl [1, 0] rfl) hw hf
        · replace hf := jif hf hc
          refine lv_iconst (pc := 28) (v := (0 : Int32)) hx hb dJ_canDropOldest_28 (by decide) ?_
          obtain rfl := jsm hf
          exact j_zpr (pc := 29) S hr hlk (Or.inl rfl) dJ_canDropOldest_29
set_option maxHeartbeats 4000000 in
set_option maxRecDepth 100000 in
theorem bJ_canDropOldest {p : Program} {l : Launch} {e : Env} {s : State} {m : MethodId} {args : Array Value} {below : List Frame} {meth : Method} {c : Code} {D : va_G} {ca : Nat → ClassId} {ad : Nat → Nat} {A : Nat → Prop} (hA : ∀ q, s.heap.size ≤ q → A q) (S : CallFix p m c cJ_canDropOldest 2 s args jall RJ) (hN : xN A s) (hr : meth.sig.returnType = some .boolean) (hlk : meth.locks = false) (out : Int32) (σ : JS)  (ls : Array Slot) (hl : lv_has ls 2 [(0, .ref (ad 1))]) (hw : jH D (xT ca) (xC ca ad σ) A s.heap s.heap [] s) (hf : mJ_canDropOldest σ  = some out) : W p l e (headSpec wsJ_canDropOldest rmJ_canDropOldest).room s m args below meth c s.heap [] 0 0 (MQ below (jSi out) args s 0 0 (fun _ => False)) (F0 m 0 ls []) := by
  have hx := S.1
  have hb := S.2.1
  unfold mJ_canDropOldest at hf
  refine lv_iconst (pc := 0) (v := (0 : Int32)) hx hb dJ_canDropOldest_0 (by decide) ?_
  refine lv_istore_n (pc := 1) (lv' := [(1, .int (0 : Int32)), (0, .ref (ad 1))]) hx hb dJ_canDropOldest_1 rfl hl (by decide) rfl (fun ls hl => ?_)
  refine wmJ_canDropOldest_L2 hA S hN hr hlk out _ σ (fun z8 ls hl hw hf => ?_) 999 (0 : Int32) _ (lv_sub hl [1, 0] rfl) hw hf
  try dsimp only at hf
  refine lv_aload_n (pc := 36) hx hb dJ_canDropOldest_36 rfl (lv_at hl 0 rfl) ?_
  have hg := jbn_e hf; clear hf; obtain ⟨q9, h10, hf⟩ := hg
  refine j_cpi (pc := 37) (v := q9) (va_runV (As := []) (rest := []) S (kJ_endOfOldest l D ca ad _ σ  q9 h10) (cwV 0 S.2.2.2.2 (jgV k_526 k_527 k_528 k_2 k_529) rfl rfl rfl (by decide +kernel) ⟨Nat.le_of_ble_eq_true rfl, Nat.le_of_ble_eq_true rfl⟩) (j_preV (As := []) hw xN_b (xN_to hN hw hA) rfl xg_1) rfl rfl hl.1 rfl (lv_room (Nat.le_of_ble_eq_true rfl)) dJ_canDropOldest_37 ⟨Nat.le_of_ble_eq_true rfl, Nat.le_of_ble_eq_true rfl⟩) ?_
  refine lv_aload_n (pc := 40) hx hb dJ_canDropOldest_40 rfl (lv_at hl 0 rfl) ?_
  refine j_get (pc := 41) (v := .int (σ 100 0)) S hw inJ 1 1 9 xg_1 rfl (by decide) k_49 rfl dJ_canDropOldest_41 ?_
  refine lv_icmp_gt (pc := 44) (tgt := 51) hx hb dJ_canDropOldest_44 (by decide) (fun hc => ?_) (fun hc => ?_)
  · replace hf := jit hf hc
    refine lv_iconst (pc := 51) (v := (0 : Int32)) hx hb dJ_canDropOldest_51 (by decide) ?_
    obtain rfl := jsm hf
    exact j_zpr (pc := 52) S hr hlk (Or.inl rfl) dJ_canDropOldest_52
  · replace hf := jif hf hc
    refine lv_iconst (pc := 47) (v := (1 : Int32)) hx hb dJ_canDropOldest_47 (by decide) ?_
    refine lv_goto (pc := 48) (tgt := 52) hx hb dJ_canDropOldest_48 (by decide) ?_
    obtain rfl := jsm hf
    exact j_zpr (pc := 52) S hr hlk (Or.inr rfl) dJ_canDropOldest_52
set_option maxHeartbeats 4000000 in
set_option maxRecDepth 100000 in
theorem kJ_canDropOldest (l : Launch) (D : va_G) (ca : Nat → ClassId) (ad : Nat → Nat) (sz : Nat) (σ : JS)  (out : Int32) (hf : mJ_canDropOldest σ  = some out) : Met l yJ_canDropOldest wsJ_canDropOldest rmJ_canDropOldest (jPre D (xT ca) (xC ca ad σ) (xN (va_A (xC ca ad σ) sz)) sz [.ref (ad 1)]) (jSi out) 0 0 (fun _ => False) := by
  refine Met.ofW (cc := cJ_canDropOldest) (maxL := 2) (ret := some .boolean) (by decide) rfl ?_
  intro p e s m args below meth c s₁ B hml hv
  obtain ⟨rfl, hsz, hP, hK, hD0, hN⟩ := hv
  subst hsz
  have hl := lv_entry [.ref (ad 1)] (n := 2) (Nat.le_of_ble_eq_true rfl)
  rw [lg_entry_eq]
  generalize (lg_sl [.ref (ad 1)] ++ List.replicate (2 - (lg_sl [.ref (ad 1)]).length) Slot.unset).toArray = ls at hl ⊢
  exact bJ_canDropOldest (fun q h => Or.inr h) ⟨B.exec, B.bytes, hml, findClass_of_methodNamed B.named, fun w h => atoms_spec (ws := wsJ_canDropOldest) B.pre w (List.mem_cons_of_mem _ h)⟩ hN B.returns B.notSynchronized out σ  ls hl ⟨hP, hD0.self, va_S.rf, hK⟩ hf

def rmnH_drop : Room := { frames := 6, cells := 0, slots := 0, locals := 85 }
def rmxH_drop : Room := { frames := 6, cells := 1, slots := 6, locals := 85 }
def mH_drop (σ : JS)  : Option (Nat × Int32 × JS) :=
  if (σ 100 8) = 0 then
  (some (2, 0, σ))
  else
  (jbn (mJ_canDropOldest σ ) fun q1 =>
  if q1 = 0 then
  (some (2, 0, σ))
  else
  (jbn (mJ_endOfOldest σ ) fun q3 =>
  if q3 ≤ (σ 100 7) then
  (jbn (mS_landOldest σ (σ 100 2)) fun q5 =>
  jst (jw2 q5 100 1 ((q5 100 1) + (1 : Int32))) fun σ7 =>
  some (0, (σ7 100 1), σ7))
  else
  (some (2, 0, σ))))
set_option maxHeartbeats 4000000 in
set_option maxRecDepth 100000 in
theorem bnH_drop {p : Program} {l : Launch} {e : Env} {s : State} {m : MethodId} {args : Array Value} {below : List Frame} {meth : Method} {c : Code} {D : va_G} {ca : Nat → ClassId} {ad : Nat → Nat} {A : Nat → Prop} (hA : ∀ q, s.heap.size ≤ q → A q) (S : CallFix p m c cH_drop 1 s args jall RH) (hN : xN A s) (hr : meth.sig.returnType = some .int) (hlk : meth.locks = false) (vo : Int32) (σo : JS) (σ : JS)  (ls : Array Slot) (hl : lv_has ls 1 [(0, .ref (ad 0))]) (hw : jH D (xT ca) (xC ca ad σ) A s.heap s.heap [] s) (hf : mH_drop σ  = some (0, vo, σo)) : W p l e (headSpec wsH_drop rmnH_drop).room s m args below meth c s.heap [] 0 0 (MQ below (jQi D (xT ca) (xC ca ad) A vo σo) args s 0 0 A) (F0 m 0 ls []) := by
  have hx := S.1
  have hb := S.2.1
  unfold mH_drop at hf
  refine lv_aload_n (pc := 0) hx hb dH_drop_0 rfl (lv_at hl 0 rfl) ?_
  refine j_get (pc := 1) (v := .int (σ 100 8)) S hw inH 0 0 11 xg_0 rfl (by decide) k_173 rfl dH_drop_1 ?_
  refine lv_if_eq (pc := 4) (tgt := 31) hx hb dH_drop_4 (by decide) (fun hc => ?_) (fun hc => ?_)
  · replace hf := jit hf hc
    exact (jo2 hf).elim
  · replace hf := jif hf hc
    refine lv_aload_n (pc := 7) hx hb dH_drop_7 rfl (lv_at hl 0 rfl) ?_
    refine j_get (pc := 8) (v := .ref (ad 1)) S hw inH 0 0 0 xg_0 rfl (by decide) k_162 rfl dH_drop_8 ?_
    have hg := jbn_e hf; clear hf; obtain ⟨q1, h2, hf⟩ := hg
    refine j_cpi (pc := 11) (v := q1) (va_runV (As := []) (rest := []) S (kJ_canDropOldest l D ca ad _ σ  q1 h2) (cwV 0 S.2.2.2.2 (jgV k_522 k_523 k_524 k_2 k_525) rfl rfl rfl (by decide +kernel) ⟨Nat.le_of_ble_eq_true rfl, Nat.le_of_ble_eq_true rfl⟩) (j_preV (As := []) hw xN_b (xN_to hN hw hA) rfl xg_1) rfl rfl hl.1 rfl (lv_room (Nat.le_of_ble_eq_true rfl)) dH_drop_11 ⟨Nat.le_of_ble_eq_true rfl, Nat.le_of_ble_eq_true rfl⟩) ?_
    refine lv_if_eq (pc := 14) (tgt := 31) hx hb dH_drop_14 (by decide) (fun hc => ?_) (fun hc => ?_)
    · replace hf := jit hf hc
      exact (jo2 hf).elim
    · replace hf := jif hf hc
      refine lv_aload_n (pc := 17) hx hb dH_drop_17 rfl (lv_at hl 0 rfl) ?_
      refine j_get (pc := 18) (v := .int (σ 100 7)) S hw inH 0 0 10 xg_0 rfl (by decide) k_172 rfl dH_drop_18 ?_
      refine lv_aload_n (pc := 21) hx hb dH_drop_21 rfl (lv_at hl 0 rfl) ?_
      refine j_get (pc := 22) (v := .ref (ad 1)) S hw inH 0 0 0 xg_0 rfl (by decide) k_162 rfl dH_drop_22 ?_
      have hg := jbn_e hf; clear hf; obtain ⟨q3, h4, hf⟩ := hg
      refine j_cpi (pc := 25) (v := q3) (va_runV (As := []) (rest := [.int (σ 100 7)]) S (kJ_endOfOldest l D ca ad _ σ  q3 h4) (cwV 0 S.2.2.2.2 (jgV k_530 k_527 k_528 k_2 k_529) rfl rfl rfl (by decide +kernel) ⟨Nat.le_of_ble_eq_true rfl, Nat.le_of_ble_eq_true rfl⟩) (j_preV (As := []) hw xN_b (xN_to hN hw hA) rfl xg_1) rfl rfl hl.1 rfl (lv_room (Nat.le_of_ble_eq_true rfl)) dH_drop_25 ⟨Nat.le_of_ble_eq_true rfl, Nat.le_of_ble_eq_true rfl⟩) ?_
      refine lv_icmp_ge (pc := 28) (tgt := 39) hx hb dH_drop_28 (by decide) (fun hc => ?_) (fun hc => ?_)
      · replace hf := jit hf hc
        refine lv_aload_n (pc := 39) hx hb dH_drop_39 rfl (lv_at hl 0 rfl) ?_
        refine j_get (pc := 40) (v := .ref (ad 2)) S hw inH 0 0 1 xg_0 rfl (by decide) k_163 rfl dH_drop_40 ?_
        refine lv_aload_n (pc := 43) hx hb dH_drop_43 rfl (lv_at hl 0 rfl) ?_
        refine j_get (pc := 44) (v := .ref (ad 2)) S hw inH 0 0 1 xg_0 rfl (by decide) k_163 rfl dH_drop_44 ?_
        refine j_get (pc := 47) (v := .int (σ 100 2)) S hw inS 2 2 4 xg_2 rfl (by decide) k_90 rfl dH_drop_47 ?_
        have hg := jbn_e hf; clear hf; obtain ⟨q5, h6, hf⟩ := hg
        refine j_callv (pc := 50) (C := xC ca ad) (σ' := q5) hw hA (va_runV (As := [.int (σ 100 2)]) (rest := []) S (kS_landOldest l D ca ad _ σ (σ 100 2) q5 h6) (cwV 1 S.2.2.2.2 (jgV k_531 k_411 k_412 k_3 k_413) rfl rfl rfl (by decide +kernel) ⟨Nat.le_of_ble_eq_true rfl, Nat.le_of_ble_eq_true rfl⟩) (j_preV (As := [.int (σ 100 2)]) hw xN_b (xN_to hN hw hA) rfl xg_2) rfl rfl hl.1 rfl (lv_room (Nat.le_of_ble_eq_true rfl)) dH_drop_50 ⟨Nat.le_of_ble_eq_true rfl, Nat.le_of_ble_eq_true rfl⟩) (fun H locs hw => ?_)
        refine lv_aload_n (pc := 53) hx hb dH_drop_53 rfl (lv_at hl 0 rfl) ?_
        refine j_get (pc := 54) (v := .ref (ad 1)) S hw inH 0 0 0 xg_0 rfl (by decide) k_162 rfl dH_drop_54 ?_
        refine lv_dup (pc := 57) hx hb dH_drop_57 rfl ?_
        refine j_get (pc := 58) (v := .int (q5 100 1)) S hw inJ 1 1 10 xg_1 rfl (by decide) k_52 rfl dH_drop_58 ?_
        refine lv_iconst (pc := 61) (v := (1 : Int32)) hx hb dH_drop_61 (by decide) ?_
        refine lv_iadd (pc := 62) hx hb dH_drop_62 ?_
        have hg := jst_e hf; clear hf; obtain ⟨σ7, e8, hf⟩ := hg
        refine j_put (pc := 63) (v := .int ((q5 100 1) + (1 : Int32))) (ws' := xC ca ad σ7) S hw inJ tyJ tyJ_ok nmJ 1 1 10 xg_1 rfl (by decide) k_52 rfl rfl rfl (Nat.le_of_ble_eq_true rfl) (by rw [e8]; exact xp_1) dH_drop_63 (fun H locs hw => ?_)
        refine lv_aload_n (pc := 66) hx hb dH_drop_66 rfl (lv_at hl 0 rfl) ?_
        refine j_get (pc := 67) (v := .ref (ad 1)) S hw inH 0 0 0 xg_0 rfl (by decide) k_162 rfl dH_drop_67 ?_
        refine j_get (pc := 70) (v := .int (σ7 100 1)) S hw inJ 1 1 10 xg_1 rfl (by decide) k_52 rfl dH_drop_70 ?_
        obtain ⟨rfl, rfl⟩ := jo0 hf
        exact j_iret (pc := 73) S hw hr hlk dH_drop_73
      · replace hf := jif hf hc
        exact (jo2 hf).elim
set_option maxHeartbeats 4000000 in
set_option maxRecDepth 100000 in
theorem knH_drop (l : Launch) (D : va_G) (ca : Nat → ClassId) (ad : Nat → Nat) (sz : Nat) (σ : JS)  (vo : Int32) (σo : JS) (hf : mH_drop σ  = some (0, vo, σo)) : Met l yH_drop wsH_drop rmnH_drop (jPre D (xT ca) (xC ca ad σ) (xN (va_A (xC ca ad σ) sz)) sz [.ref (ad 0)]) (jQi D (xT ca) (xC ca ad) (va_A (xC ca ad σ) sz) vo σo) 0 0 (va_A (xC ca ad σ) sz) := by
  refine Met.ofW (cc := cH_drop) (maxL := 1) (ret := some .int) (by decide) rfl ?_
  intro p e s m args below meth c s₁ B hml hv
  obtain ⟨rfl, hsz, hP, hK, hD0, hN⟩ := hv
  subst hsz
  have hl := lv_entry [.ref (ad 0)] (n := 1) (Nat.le_of_ble_eq_true rfl)
  rw [lg_entry_eq]
  generalize (lg_sl [.ref (ad 0)] ++ List.replicate (1 - (lg_sl [.ref (ad 0)]).length) Slot.unset).toArray = ls at hl ⊢
  exact bnH_drop (fun q h => Or.inr h) ⟨B.exec, B.bytes, hml, findClass_of_methodNamed B.named, fun w h => atoms_spec (ws := wsH_drop) B.pre w (List.mem_cons_of_mem _ h)⟩ hN B.returns B.notSynchronized vo σo σ  ls hl ⟨hP, hD0.self, va_S.rf, hK⟩ hf
set_option maxHeartbeats 4000000 in
set_option maxRecDepth 100000 in
theorem bxH_drop {p : Program} {l : Launch} {e : Env} {s : State} {m : MethodId} {args : Array Value} {below : List Frame} {meth : Method} {c : Code} {D : va_G} {ca : Nat → ClassId} {ad : Nat → Nat} {A : Nat → Prop} (hA : ∀ q, s.heap.size ≤ q → A q) (S : CallFix p m c cH_drop 1 s args jall RH) (hN : xN A s) (hr : meth.sig.returnType = some .int) (hlk : meth.locks = false) (hl9 : l.stackTraces = false) (ht9 : ∀ x ∈ c.exceptionTable.toList, False) (ko : Nat) (vo : Int32) (σo : JS) (hko : ¬ ko = 0) (σ : JS)  (ls : Array Slot) (hl : lv_has ls 1 [(0, .ref (ad 0))]) (hw : jH D (xT ca) (xC ca ad σ) A s.heap s.heap [] s) (hf : mH_drop σ  = some (ko, vo, σo)) : W p l e (headSpec wsH_drop rmxH_drop).room s m args below meth c s.heap [] 0 0 (jxQ below s (jE ko) (jB D (xT ca) (xC ca ad) A σo) A 1 6) (F0 m 0 ls []) := by
  have hx := S.1
  have hb := S.2.1
  unfold mH_drop at hf
  refine lv_aload_n (pc := 0) hx hb dH_drop_0 rfl (lv_at hl 0 rfl) ?_
  refine j_get (pc := 1) (v := .int (σ 100 8)) S hw inH 0 0 11 xg_0 rfl (by decide) k_173 rfl dH_drop_1 ?_
  refine lv_if_eq (pc := 4) (tgt := 31) hx hb dH_drop_4 (by decide) (fun hc => ?_) (fun hc => ?_)
  · replace hf := jit hf hc
    obtain ⟨rfl, rfl, rfl⟩ := jo4 hf
    exact jx_throw (pc := 31) (own := RH) (cls := jE 2) (names := jnm) (ik := 68) (ic := 70) hx hb hl9 S.2.2.2.1 (by decide +kernel) (by decide +kernel) (S.2.2.2.2 _ k_340) (S.2.2.2.2 _ k_12) (jxw_of S hN jxw2) (hl.1.trans S.2.2.1.symm) dH_drop_31 dH_drop_34 dH_drop_35 dH_drop_38 ht9 (Nat.le_of_ble_eq_true rfl) (Nat.le_of_ble_eq_true rfl) (Nat.le_of_ble_eq_true rfl) (Nat.le_of_ble_eq_true rfl) hlk (Nat.le_refl _) (Nat.le_refl _) (jB_kept hw)
  · replace hf := jif hf hc
    refine lv_aload_n (pc := 7) hx hb dH_drop_7 rfl (lv_at hl 0 rfl) ?_
    refine j_get (pc := 8) (v := .ref (ad 1)) S hw inH 0 0 0 xg_0 rfl (by decide) k_162 rfl dH_drop_8 ?_
    have hg := jbn_e hf; clear hf; obtain ⟨q1, h2, hf⟩ := hg
    refine j_cpi (pc := 11) (v := q1) (va_runV (As := []) (rest := []) S (kJ_canDropOldest l D ca ad _ σ  q1 h2) (cwV 0 S.2.2.2.2 (jgV k_522 k_523 k_524 k_2 k_525) rfl rfl rfl (by decide +kernel) ⟨Nat.le_of_ble_eq_true rfl, Nat.le_of_ble_eq_true rfl⟩) (j_preV (As := []) hw xN_b (xN_to hN hw hA) rfl xg_1) rfl rfl hl.1 rfl (lv_room (Nat.le_of_ble_eq_true rfl)) dH_drop_11 ⟨Nat.le_of_ble_eq_true rfl, Nat.le_of_ble_eq_true rfl⟩) ?_
    refine lv_if_eq (pc := 14) (tgt := 31) hx hb dH_drop_14 (by decide) (fun hc => ?_) (fun hc => ?_)
    · replace hf := jit hf hc
      obtain ⟨rfl, rfl, rfl⟩ := jo4 hf
      exact jx_throw (pc := 31) (own := RH) (cls := jE 2) (names := jnm) (ik := 68) (ic := 70) hx hb hl9 S.2.2.2.1 (by decide +kernel) (by decide +kernel) (S.2.2.2.2 _ k_340) (S.2.2.2.2 _ k_12) (jxw_of S hN jxw2) (hl.1.trans S.2.2.1.symm) dH_drop_31 dH_drop_34 dH_drop_35 dH_drop_38 ht9 (Nat.le_of_ble_eq_true rfl) (Nat.le_of_ble_eq_true rfl) (Nat.le_of_ble_eq_true rfl) (Nat.le_of_ble_eq_true rfl) hlk (Nat.le_refl _) (Nat.le_refl _) (jB_kept hw)
    · replace hf := jif hf hc
      refine lv_aload_n (pc := 17) hx hb dH_drop_17 rfl (lv_at hl 0 rfl) ?_
      refine j_get (pc := 18) (v := .int (σ 100 7)) S hw inH 0 0 10 xg_0 rfl (by decide) k_172 rfl dH_drop_18 ?_
      refine lv_aload_n (pc := 21) hx hb dH_drop_21 rfl (lv_at hl 0 rfl) ?_
      refine j_get (pc := 22) (v := .ref (ad 1)) S hw inH 0 0 0 xg_0 rfl (by decide) k_162 rfl dH_drop_22 ?_
      have hg := jbn_e hf; clear hf; obtain ⟨q3, h4, hf⟩ := hg
      refine j_cpi (pc := 25) (v := q3) (va_runV (As := []) (rest := [.int (σ 100 7)]) S (kJ_endOfOldest l D ca ad _ σ  q3 h4) (cwV 0 S.2.2.2.2 (jgV k_530 k_527 k_528 k_2 k_529) rfl rfl rfl (by decide +kernel) ⟨Nat.le_of_ble_eq_true rfl, Nat.le_of_ble_eq_true rfl⟩) (j_preV (As := []) hw xN_b (xN_to hN hw hA) rfl xg_1) rfl rfl hl.1 rfl (lv_room (Nat.le_of_ble_eq_true rfl)) dH_drop_25 ⟨Nat.le_of_ble_eq_true rfl, Nat.le_of_ble_eq_true rfl⟩) ?_
      refine lv_icmp_ge (pc := 28) (tgt := 39) hx hb dH_drop_28 (by decide) (fun hc => ?_) (fun hc => ?_)
      · replace hf := jit hf hc
        refine lv_aload_n (pc := 39) hx hb dH_drop_39 rfl (lv_at hl 0 rfl) ?_
        refine j_get (pc := 40) (v := .ref (ad 2)) S hw inH 0 0 1 xg_0 rfl (by decide) k_163 rfl dH_drop_40 ?_
        refine lv_aload_n (pc := 43) hx hb dH_drop_43 rfl (lv_at hl 0 rfl) ?_
        refine j_get (pc := 44) (v := .ref (ad 2)) S hw inH 0 0 1 xg_0 rfl (by decide) k_163 rfl dH_drop_44 ?_
        refine j_get (pc := 47) (v := .int (σ 100 2)) S hw inS 2 2 4 xg_2 rfl (by decide) k_90 rfl dH_drop_47 ?_
        have hg := jbn_e hf; clear hf; obtain ⟨q5, h6, hf⟩ := hg
        refine j_callv (pc := 50) (C := xC ca ad) (σ' := q5) hw hA (va_runV (As := [.int (σ 100 2)]) (rest := []) S (kS_landOldest l D ca ad _ σ (σ 100 2) q5 h6) (cwV 1 S.2.2.2.2 (jgV k_531 k_411 k_412 k_3 k_413) rfl rfl rfl (by decide +kernel) ⟨Nat.le_of_ble_eq_true rfl, Nat.le_of_ble_eq_true rfl⟩) (j_preV (As := [.int (σ 100 2)]) hw xN_b (xN_to hN hw hA) rfl xg_2) rfl rfl hl.1 rfl (lv_room (Nat.le_of_ble_eq_true rfl)) dH_drop_50 ⟨Nat.le_of_ble_eq_true rfl, Nat.le_of_ble_eq_true rfl⟩) (fun H locs hw => ?_)
        refine lv_aload_n (pc := 53) hx hb dH_drop_53 rfl (lv_at hl 0 rfl) ?_
        refine j_get (pc := 54) (v := .ref (ad 1)) S hw inH 0 0 0 xg_0 rfl (by decide) k_162 rfl dH_drop_54 ?_
        refine lv_dup (pc := 57) hx hb dH_drop_57 rfl ?_
        refine j_get (pc := 58) (v := .int (q5 100 1)) S hw inJ 1 1 10 xg_1 rfl (by decide) k_52 rfl dH_drop_58 ?_
        refine lv_iconst (pc := 61) (v := (1 : Int32)) hx hb dH_drop_61 (by decide) ?_
        refine lv_iadd (pc := 62) hx hb dH_drop_62 ?_
        have hg := jst_e hf; clear hf; obtain ⟨σ7, e8, hf⟩ := hg
        refine j_put (pc := 63) (v := .int ((q5 100 1) + (1 : Int32))) (ws' := xC ca ad σ7) S hw inJ tyJ tyJ_ok nmJ 1 1 10 xg_1 rfl (by decide) k_52 rfl rfl rfl (Nat.le_of_ble_eq_true rfl) (by rw [e8]; exact xp_1) dH_drop_63 (fun H locs hw => ?_)
        refine lv_aload_n (pc := 66) hx hb dH_drop_66 rfl (lv_at hl 0 rfl) ?_
        refine j_get (pc := 67) (v := .ref (ad 1)) S hw inH 0 0 0 xg_0 rfl (by decide) k_162 rfl dH_drop_67 ?_
        refine j_get (pc := 70) (v := .int (σ7 100 1)) S hw inJ 1 1 10 xg_1 rfl (by decide) k_52 rfl dH_drop_70 ?_
        exact absurd (jo1 hf) hko
      · replace hf := jif hf hc
        obtain ⟨rfl, rfl, rfl⟩ := jo4 hf
        exact jx_throw (pc := 31) (own := RH) (cls := jE 2) (names := jnm) (ik := 68) (ic := 70) hx hb hl9 S.2.2.2.1 (by decide +kernel) (by decide +kernel) (S.2.2.2.2 _ k_340) (S.2.2.2.2 _ k_12) (jxw_of S hN jxw2) (hl.1.trans S.2.2.1.symm) dH_drop_31 dH_drop_34 dH_drop_35 dH_drop_38 ht9 (Nat.le_of_ble_eq_true rfl) (Nat.le_of_ble_eq_true rfl) (Nat.le_of_ble_eq_true rfl) (Nat.le_of_ble_eq_true rfl) hlk (Nat.le_refl _) (Nat.le_refl _) (jB_kept hw)
set_option maxHeartbeats 4000000 in
set_option maxRecDepth 100000 in
theorem kxH_drop (l : Launch) (hl9 : l.stackTraces = false) (D : va_G) (ca : Nat → ClassId) (ad : Nat → Nat) (sz : Nat) (σ : JS)  (ko : Nat) (vo : Int32) (σo : JS) (hko : ¬ ko = 0) (hf : mH_drop σ  = some (ko, vo, σo)) : jxM l yH_drop wsH_drop rmxH_drop (jPre D (xT ca) (xC ca ad σ) (xN (va_A (xC ca ad σ) sz)) sz [.ref (ad 0)]) (jE ko) (jB D (xT ca) (xC ca ad) (va_A (xC ca ad σ) sz) σo) (va_A (xC ca ad σ) sz) 1 6 := by
  refine jxM_of (cc := cH_drop) (maxL := 1) (ret := some .int) (by decide) rfl ?_
  intro p e s m args below meth c s₁ B hml hnil hv
  obtain ⟨rfl, hsz, hP, hK, hD0, hN⟩ := hv
  subst hsz
  have hl := lv_entry [.ref (ad 0)] (n := 1) (Nat.le_of_ble_eq_true rfl)
  rw [lg_entry_eq]
  generalize (lg_sl [.ref (ad 0)] ++ List.replicate (1 - (lg_sl [.ref (ad 0)]).length) Slot.unset).toArray = ls at hl ⊢
  exact bxH_drop (fun q h => Or.inr h) ⟨B.exec, B.bytes, hml, findClass_of_methodNamed B.named, fun w h => atoms_spec (ws := wsH_drop) B.pre w (List.mem_cons_of_mem _ h)⟩ hN B.returns B.notSynchronized hl9 hnil ko vo σo hko σ  ls hl ⟨hP, hD0.self, va_S.rf, hK⟩ hf

def rmS_loseWaiting : Room := { frames := 0, cells := 0, slots := 0, locals := 0 }
def mS_loseWaiting (σ : JS)  : Option (Int32 × JS) :=
  jst (jw2 σ 100 2 (0 : Int32)) fun σ1 =>
  some ((σ 100 2), σ1)
set_option maxHeartbeats 4000000 in
set_option maxRecDepth 100000 in
theorem bS_loseWaiting {p : Program} {l : Launch} {e : Env} {s : State} {m : MethodId} {args : Array Value} {below : List Frame} {meth : Method} {c : Code} {D : va_G} {ca : Nat → ClassId} {ad : Nat → Nat} {A : Nat → Prop} (hA : ∀ q, s.heap.size ≤ q → A q) (S : CallFix p m c cS_loseWaiting 2 s args jall RS) (hN : xN A s) (hr : meth.sig.returnType = some .int) (hlk : meth.locks = false) (out : Int32 × JS) (σ : JS)  (ls : Array Slot) (hl : lv_has ls 2 [(0, .ref (ad 2))]) (hw : jH D (xT ca) (xC ca ad σ) A s.heap s.heap [] s) (hf : mS_loseWaiting σ  = some out) : W p l e (headSpec wsS_loseWaiting rmS_loseWaiting).room s m args below meth c s.heap [] 0 0 (MQ below (jQi D (xT ca) (xC ca ad) A out.1 out.2) args s 0 0 A) (F0 m 0 ls []) := by
  have hx := S.1
  have hb := S.2.1
  unfold mS_loseWaiting at hf
  refine lv_aload_n (pc := 0) hx hb dS_loseWaiting_0 rfl (lv_at hl 0 rfl) ?_
  refine j_get (pc := 1) (v := .int (σ 100 2)) S hw inS 2 2 4 xg_2 rfl (by decide) k_89 rfl dS_loseWaiting_1 ?_
  refine lv_istore_n (pc := 4) (lv' := [(1, .int (σ 100 2)), (0, .ref (ad 2))]) hx hb dS_loseWaiting_4 rfl hl (by decide) rfl (fun ls hl => ?_)
  refine lv_aload_n (pc := 5) hx hb dS_loseWaiting_5 rfl (lv_at hl 1 rfl) ?_
  refine lv_iconst (pc := 6) (v := (0 : Int32)) hx hb dS_loseWaiting_6 (by decide) ?_
  have hg := jst_e hf; clear hf; obtain ⟨σ1, e2, hf⟩ := hg
  refine j_put (pc := 7) (v := .int (0 : Int32)) (ws' := xC ca ad σ1) S hw inS tyS tyS_ok nmS 2 2 4 xg_2 rfl (by decide) k_89 rfl rfl rfl (Nat.le_of_ble_eq_true rfl) (by rw [e2]; exact xp_2) dS_loseWaiting_7 (fun H locs hw => ?_)
  refine lv_iload_n (pc := 10) hx hb dS_loseWaiting_10 rfl (lv_at hl 0 rfl) ?_
  obtain rfl := jsm hf
  exact j_iret (pc := 11) S hw hr hlk dS_loseWaiting_11
set_option maxHeartbeats 4000000 in
set_option maxRecDepth 100000 in
theorem kS_loseWaiting (l : Launch) (D : va_G) (ca : Nat → ClassId) (ad : Nat → Nat) (sz : Nat) (σ : JS)  (out : Int32 × JS) (hf : mS_loseWaiting σ  = some out) : Met l yS_loseWaiting wsS_loseWaiting rmS_loseWaiting (jPre D (xT ca) (xC ca ad σ) (xN (va_A (xC ca ad σ) sz)) sz [.ref (ad 2)]) (jQi D (xT ca) (xC ca ad) (va_A (xC ca ad σ) sz) out.1 out.2) 0 0 (va_A (xC ca ad σ) sz) := by
  refine Met.ofW (cc := cS_loseWaiting) (maxL := 2) (ret := some .int) (by decide) rfl ?_
  intro p e s m args below meth c s₁ B hml hv
  obtain ⟨rfl, hsz, hP, hK, hD0, hN⟩ := hv
  subst hsz
  have hl := lv_entry [.ref (ad 2)] (n := 2) (Nat.le_of_ble_eq_true rfl)
  rw [lg_entry_eq]
  generalize (lg_sl [.ref (ad 2)] ++ List.replicate (2 - (lg_sl [.ref (ad 2)]).length) Slot.unset).toArray = ls at hl ⊢
  exact bS_loseWaiting (fun q h => Or.inr h) ⟨B.exec, B.bytes, hml, findClass_of_methodNamed B.named, fun w h => atoms_spec (ws := wsS_loseWaiting) B.pre w (List.mem_cons_of_mem _ h)⟩ hN B.returns B.notSynchronized out σ  ls hl ⟨hP, hD0.self, va_S.rf, hK⟩ hf

def rmnH_cut : Room := { frames := 6, cells := 0, slots := 0, locals := 85 }
def rmxH_cut : Room := { frames := 6, cells := 1, slots := 6, locals := 85 }
def mH_cut (σ : JS) (x1 : Int32) : Option (Nat × Int32 × JS) :=
  if x1 < 0 then
  (some (1, 0, σ))
  else
  (if x1 ≤ (σ 100 2) then
  (if (σ 100 8) = 0 then
  (some (2, 0, σ))
  else
  (jbn (mS_landOldest σ x1) fun q1 =>
  jst (jw2 q1 100 8 (0 : Int32)) fun σ3 =>
  jbn (mS_loseWaiting σ3 ) fun q5 =>
  some (0, q5.1, q5.2)))
  else
  (some (1, 0, σ)))
set_option maxHeartbeats 4000000 in
set_option maxRecDepth 100000 in
theorem bnH_cut {p : Program} {l : Launch} {e : Env} {s : State} {m : MethodId} {args : Array Value} {below : List Frame} {meth : Method} {c : Code} {D : va_G} {ca : Nat → ClassId} {ad : Nat → Nat} {A : Nat → Prop} (hA : ∀ q, s.heap.size ≤ q → A q) (S : CallFix p m c cH_cut 2 s args jall RH) (hN : xN A s) (hr : meth.sig.returnType = some .int) (hlk : meth.locks = false) (vo : Int32) (σo : JS) (σ : JS) (x1 : Int32) (ls : Array Slot) (hl : lv_has ls 2 [(0, .ref (ad 0)), (1, .int x1)]) (hw : jH D (xT ca) (xC ca ad σ) A s.heap s.heap [] s) (hf : mH_cut σ x1 = some (0, vo, σo)) : W p l e (headSpec wsH_cut rmnH_cut).room s m args below meth c s.heap [] 0 0 (MQ below (jQi D (xT ca) (xC ca ad) A vo σo) args s 0 0 A) (F0 m 0 ls []) := by
  have hx := S.1
  have hb := S.2.1
  unfold mH_cut at hf
  refine lv_iload_n (pc := 0) hx hb dH_cut_0 rfl (lv_at hl 1 rfl) ?_
  refine lv_if_lt (pc := 1) (tgt := 15) hx hb dH_cut_1 (by decide) (fun hc => ?_) (fun hc => ?_)
  · replace hf := jit hf hc
    exact (jo2 hf).elim
  · replace hf := jif hf hc
    refine lv_iload_n (pc := 4) hx hb dH_cut_4 rfl (lv_at hl 1 rfl) ?_
    refine lv_aload_n (pc := 5) hx hb dH_cut_5 rfl (lv_at hl 0 rfl) ?_
    refine j_get (pc := 6) (v := .ref (ad 2)) S hw inH 0 0 1 xg_0 rfl (by decide) k_163 rfl dH_cut_6 ?_
    refine j_get (pc := 9) (v := .int (σ 100 2)) S hw inS 2 2 4 xg_2 rfl (by decide) k_90 rfl dH_cut_9 ?_
    refine lv_icmp_le (pc := 12) (tgt := 23) hx hb dH_cut_12 (by decide) (fun hc => ?_) (fun hc => ?_)
    · replace hf := jit hf hc
      refine lv_aload_n (pc := 23) hx hb dH_cut_23 rfl (lv_at hl 0 rfl) ?_
      refine j_get (pc := 24) (v := .int (σ 100 8)) S hw inH 0 0 11 xg_0 rfl (by decide) k_173 rfl dH_cut_24 ?_
      refine lv_if_ne (pc := 27) (tgt := 38) hx hb dH_cut_27 (by decide) (fun hc => ?_) (fun hc => ?_)
      · replace hf := jif hf hc
        refine lv_aload_n (pc := 38) hx hb dH_cut_38 rfl (lv_at hl 0 rfl) ?_
        refine j_get (pc := 39) (v := .ref (ad 2)) S hw inH 0 0 1 xg_0 rfl (by decide) k_163 rfl dH_cut_39 ?_
        refine lv_iload_n (pc := 42) hx hb dH_cut_42 rfl (lv_at hl 1 rfl) ?_
        have hg := jbn_e hf; clear hf; obtain ⟨q1, h2, hf⟩ := hg
        refine j_callv (pc := 43) (C := xC ca ad) (σ' := q1) hw hA (va_runV (As := [.int x1]) (rest := []) S (kS_landOldest l D ca ad _ σ x1 q1 h2) (cwV 1 S.2.2.2.2 (jgV k_531 k_411 k_412 k_3 k_413) rfl rfl rfl (by decide +kernel) ⟨Nat.le_of_ble_eq_true rfl, Nat.le_of_ble_eq_true rfl⟩) (j_preV (As := [.int x1]) hw xN_b (xN_to hN hw hA) rfl xg_2) rfl rfl hl.1 rfl (lv_room (Nat.le_of_ble_eq_true rfl)) dH_cut_43 ⟨Nat.le_of_ble_eq_true rfl, Nat.le_of_ble_eq_true rfl⟩) (fun H locs hw => ?_)
        refine lv_aload_n (pc := 46) hx hb dH_cut_46 rfl (lv_at hl 0 rfl) ?_
        refine lv_iconst (pc := 47) (v := (0 : Int32)) hx hb dH_cut_47 (by decide) ?_
        have hg := jst_e hf; clear hf; obtain ⟨σ3, e4, hf⟩ := hg
        refine j_put (pc := 48) (v := .int (0 : Int32)) (ws' := xC ca ad σ3) S hw inH tyH tyH_ok nmH 0 0 11 xg_0 rfl (by decide) k_173 rfl rfl rfl (Nat.le_of_ble_eq_true rfl) (by rw [e4]; exact xp_8) dH_cut_48 (fun H locs hw => ?_)
        refine lv_aload_n (pc := 51) hx hb dH_cut_51 rfl (lv_at hl 0 rfl) ?_
        refine j_get (pc := 52) (v := .ref (ad 2)) S hw inH 0 0 1 xg_0 rfl (by decide) k_163 rfl dH_cut_52 ?_
        have hg := jbn_e hf; clear hf; obtain ⟨q5, h6, hf⟩ := hg
        refine j_calli (pc := 55) (C := xC ca ad) (σ' := q5.2) (v := q5.1) hw hA (va_runV (As := []) (rest := []) S (kS_loseWaiting l D ca ad _ σ3  q5 h6) (cwV 0 S.2.2.2.2 (jgV k_539 k_540 k_541 k_3 k_542) rfl rfl rfl (by decide +kernel) ⟨Nat.le_of_ble_eq_true rfl, Nat.le_of_ble_eq_true rfl⟩) (j_preV (As := []) hw xN_b (xN_to hN hw hA) rfl xg_2) rfl rfl hl.1 rfl (lv_room (Nat.le_of_ble_eq_true rfl)) dH_cut_55 ⟨Nat.le_of_ble_eq_true rfl, Nat.le_of_ble_eq_true rfl⟩) (fun H locs hw => ?_)
        obtain ⟨rfl, rfl⟩ := jo0 hf
        exact j_iret (pc := 58) S hw hr hlk dH_cut_58
      · replace hf := jit hf hc
        exact (jo2 hf).elim
    · replace hf := jif hf hc
      exact (jo2 hf).elim
set_option maxHeartbeats 4000000 in
set_option maxRecDepth 100000 in
theorem knH_cut (l : Launch) (D : va_G) (ca : Nat → ClassId) (ad : Nat → Nat) (sz : Nat) (σ : JS) (x1 : Int32) (vo : Int32) (σo : JS) (hf : mH_cut σ x1 = some (0, vo, σo)) : Met l yH_cut wsH_cut rmnH_cut (jPre D (xT ca) (xC ca ad σ) (xN (va_A (xC ca ad σ) sz)) sz [.ref (ad 0), .int x1]) (jQi D (xT ca) (xC ca ad) (va_A (xC ca ad σ) sz) vo σo) 0 0 (va_A (xC ca ad σ) sz) := by
  refine Met.ofW (cc := cH_cut) (maxL := 2) (ret := some .int) (by decide) rfl ?_
  intro p e s m args below meth c s₁ B hml hv
  obtain ⟨rfl, hsz, hP, hK, hD0, hN⟩ := hv
  subst hsz
  have hl := lv_entry [.ref (ad 0), .int x1] (n := 2) (Nat.le_of_ble_eq_true rfl)
  rw [lg_entry_eq]
  generalize (lg_sl [.ref (ad 0), .int x1] ++ List.replicate (2 - (lg_sl [.ref (ad 0), .int x1]).length) Slot.unset).toArray = ls at hl ⊢
  exact bnH_cut (fun q h => Or.inr h) ⟨B.exec, B.bytes, hml, findClass_of_methodNamed B.named, fun w h => atoms_spec (ws := wsH_cut) B.pre w (List.mem_cons_of_mem _ h)⟩ hN B.returns B.notSynchronized vo σo σ x1 ls hl ⟨hP, hD0.self, va_S.rf, hK⟩ hf
set_option maxHeartbeats 4000000 in
set_option maxRecDepth 100000 in
theorem bxH_cut {p : Program} {l : Launch} {e : Env} {s : State} {m : MethodId} {args : Array Value} {below : List Frame} {meth : Method} {c : Code} {D : va_G} {ca : Nat → ClassId} {ad : Nat → Nat} {A : Nat → Prop} (hA : ∀ q, s.heap.size ≤ q → A q) (S : CallFix p m c cH_cut 2 s args jall RH) (hN : xN A s) (hr : meth.sig.returnType = some .int) (hlk : meth.locks = false) (hl9 : l.stackTraces = false) (ht9 : ∀ x ∈ c.exceptionTable.toList, False) (ko : Nat) (vo : Int32) (σo : JS) (hko : ¬ ko = 0) (σ : JS) (x1 : Int32) (ls : Array Slot) (hl : lv_has ls 2 [(0, .ref (ad 0)), (1, .int x1)]) (hw : jH D (xT ca) (xC ca ad σ) A s.heap s.heap [] s) (hf : mH_cut σ x1 = some (ko, vo, σo)) : W p l e (headSpec wsH_cut rmxH_cut).room s m args below meth c s.heap [] 0 0 (jxQ below s (jE ko) (jB D (xT ca) (xC ca ad) A σo) A 1 6) (F0 m 0 ls []) := by
  have hx := S.1
  have hb := S.2.1
  unfold mH_cut at hf
  refine lv_iload_n (pc := 0) hx hb dH_cut_0 rfl (lv_at hl 1 rfl) ?_
  refine lv_if_lt (pc := 1) (tgt := 15) hx hb dH_cut_1 (by decide) (fun hc => ?_) (fun hc => ?_)
  · replace hf := jit hf hc
    obtain ⟨rfl, rfl, rfl⟩ := jo4 hf
    exact jx_throw (pc := 15) (own := RH) (cls := jE 1) (names := jnm) (ik := 61) (ic := 63) hx hb hl9 S.2.2.2.1 (by decide +kernel) (by decide +kernel) (S.2.2.2.2 _ k_278) (S.2.2.2.2 _ k_11) (jxw_of S hN jxw1) (hl.1.trans S.2.2.1.symm) dH_cut_15 dH_cut_18 dH_cut_19 dH_cut_22 ht9 (Nat.le_of_ble_eq_true rfl) (Nat.le_of_ble_eq_true rfl) (Nat.le_of_ble_eq_true rfl) (Nat.le_of_ble_eq_true rfl) hlk (Nat.le_refl _) (Nat.le_refl _) (jB_kept hw)
  · replace hf := jif hf hc
    refine lv_iload_n (pc := 4) hx hb dH_cut_4 rfl (lv_at hl 1 rfl) ?_
    refine lv_aload_n (pc := 5) hx hb dH_cut_5 rfl (lv_at hl 0 rfl) ?_
    refine j_get (pc := 6) (v := .ref (ad 2)) S hw inH 0 0 1 xg_0 rfl (by decide) k_163 rfl dH_cut_6 ?_
    refine j_get (pc := 9) (v := .int (σ 100 2)) S hw inS 2 2 4 xg_2 rfl (by decide) k_90 rfl dH_cut_9 ?_
    refine lv_icmp_le (pc := 12) (tgt := 23) hx hb dH_cut_12 (by decide) (fun hc => ?_) (fun hc => ?_)
    · replace hf := jit hf hc
      refine lv_aload_n (pc := 23) hx hb dH_cut_23 rfl (lv_at hl 0 rfl) ?_
      refine j_get (pc := 24) (v := .int (σ 100 8)) S hw inH 0 0 11 xg_0 rfl (by decide) k_173 rfl dH_cut_24 ?_
      refine lv_if_ne (pc := 27) (tgt := 38) hx hb dH_cut_27 (by decide) (fun hc => ?_) (fun hc => ?_)
      · replace hf := jif hf hc
        refine lv_aload_n (pc := 38) hx hb dH_cut_38 rfl (lv_at hl 0 rfl) ?_
        refine j_get (pc := 39) (v := .ref (ad 2)) S hw inH 0 0 1 xg_0 rfl (by decide) k_163 rfl dH_cut_39 ?_
        refine lv_iload_n (pc := 42) hx hb dH_cut_42 rfl (lv_at hl 1 rfl) ?_
        have hg := jbn_e hf; clear hf; obtain ⟨q1, h2, hf⟩ := hg
        refine j_callv (pc := 43) (C := xC ca ad) (σ' := q1) hw hA (va_runV (As := [.int x1]) (rest := []) S (kS_landOldest l D ca ad _ σ x1 q1 h2) (cwV 1 S.2.2.2.2 (jgV k_531 k_411 k_412 k_3 k_413) rfl rfl rfl (by decide +kernel) ⟨Nat.le_of_ble_eq_true rfl, Nat.le_of_ble_eq_true rfl⟩) (j_preV (As := [.int x1]) hw xN_b (xN_to hN hw hA) rfl xg_2) rfl rfl hl.1 rfl (lv_room (Nat.le_of_ble_eq_true rfl)) dH_cut_43 ⟨Nat.le_of_ble_eq_true rfl, Nat.le_of_ble_eq_true rfl⟩) (fun H locs hw => ?_)
        refine lv_aload_n (pc := 46) hx hb dH_cut_46 rfl (lv_at hl 0 rfl) ?_
        refine lv_iconst (pc := 47) (v := (0 : Int32)) hx hb dH_cut_47 (by decide) ?_
        have hg := jst_e hf; clear hf; obtain ⟨σ3, e4, hf⟩ := hg
        refine j_put (pc := 48) (v := .int (0 : Int32)) (ws' := xC ca ad σ3) S hw inH tyH tyH_ok nmH 0 0 11 xg_0 rfl (by decide) k_173 rfl rfl rfl (Nat.le_of_ble_eq_true rfl) (by rw [e4]; exact xp_8) dH_cut_48 (fun H locs hw => ?_)
        refine lv_aload_n (pc := 51) hx hb dH_cut_51 rfl (lv_at hl 0 rfl) ?_
        refine j_get (pc := 52) (v := .ref (ad 2)) S hw inH 0 0 1 xg_0 rfl (by decide) k_163 rfl dH_cut_52 ?_
        have hg := jbn_e hf; clear hf; obtain ⟨q5, h6, hf⟩ := hg
        refine j_calli (pc := 55) (C := xC ca ad) (σ' := q5.2) (v := q5.1) hw hA (va_runV (As := []) (rest := []) S (kS_loseWaiting l D ca ad _ σ3  q5 h6) (cwV 0 S.2.2.2.2 (jgV k_539 k_540 k_541 k_3 k_542) rfl rfl rfl (by decide +kernel) ⟨Nat.le_of_ble_eq_true rfl, Nat.le_of_ble_eq_true rfl⟩) (j_preV (As := []) hw xN_b (xN_to hN hw hA) rfl xg_2) rfl rfl hl.1 rfl (lv_room (Nat.le_of_ble_eq_true rfl)) dH_cut_55 ⟨Nat.le_of_ble_eq_true rfl, Nat.le_of_ble_eq_true rfl⟩) (fun H locs hw => ?_)
        exact absurd (jo1 hf) hko
      · replace hf := jit hf hc
        obtain ⟨rfl, rfl, rfl⟩ := jo4 hf
        exact jx_throw (pc := 30) (own := RH) (cls := jE 2) (names := jnm) (ik := 68) (ic := 70) hx hb hl9 S.2.2.2.1 (by decide +kernel) (by decide +kernel) (S.2.2.2.2 _ k_340) (S.2.2.2.2 _ k_12) (jxw_of S hN jxw2) (hl.1.trans S.2.2.1.symm) dH_cut_30 dH_cut_33 dH_cut_34 dH_cut_37 ht9 (Nat.le_of_ble_eq_true rfl) (Nat.le_of_ble_eq_true rfl) (Nat.le_of_ble_eq_true rfl) (Nat.le_of_ble_eq_true rfl) hlk (Nat.le_refl _) (Nat.le_refl _) (jB_kept hw)
    · replace hf := jif hf hc
      obtain ⟨rfl, rfl, rfl⟩ := jo4 hf
      exact jx_throw (pc := 15) (own := RH) (cls := jE 1) (names := jnm) (ik := 61) (ic := 63) hx hb hl9 S.2.2.2.1 (by decide +kernel) (by decide +kernel) (S.2.2.2.2 _ k_278) (S.2.2.2.2 _ k_11) (jxw_of S hN jxw1) (hl.1.trans S.2.2.1.symm) dH_cut_15 dH_cut_18 dH_cut_19 dH_cut_22 ht9 (Nat.le_of_ble_eq_true rfl) (Nat.le_of_ble_eq_true rfl) (Nat.le_of_ble_eq_true rfl) (Nat.le_of_ble_eq_true rfl) hlk (Nat.le_refl _) (Nat.le_refl _) (jB_kept hw)
set_option maxHeartbeats 4000000 in
set_option maxRecDepth 100000 in
theorem kxH_cut (l : Launch) (hl9 : l.stackTraces = false) (D : va_G) (ca : Nat → ClassId) (ad : Nat → Nat) (sz : Nat) (σ : JS) (x1 : Int32) (ko : Nat) (vo : Int32) (σo : JS) (hko : ¬ ko = 0) (hf : mH_cut σ x1 = some (ko, vo, σo)) : jxM l yH_cut wsH_cut rmxH_cut (jPre D (xT ca) (xC ca ad σ) (xN (va_A (xC ca ad σ) sz)) sz [.ref (ad 0), .int x1]) (jE ko) (jB D (xT ca) (xC ca ad) (va_A (xC ca ad σ) sz) σo) (va_A (xC ca ad σ) sz) 1 6 := by
  refine jxM_of (cc := cH_cut) (maxL := 2) (ret := some .int) (by decide) rfl ?_
  intro p e s m args below meth c s₁ B hml hnil hv
  obtain ⟨rfl, hsz, hP, hK, hD0, hN⟩ := hv
  subst hsz
  have hl := lv_entry [.ref (ad 0), .int x1] (n := 2) (Nat.le_of_ble_eq_true rfl)
  rw [lg_entry_eq]
  generalize (lg_sl [.ref (ad 0), .int x1] ++ List.replicate (2 - (lg_sl [.ref (ad 0), .int x1]).length) Slot.unset).toArray = ls at hl ⊢
  exact bxH_cut (fun q h => Or.inr h) ⟨B.exec, B.bytes, hml, findClass_of_methodNamed B.named, fun w h => atoms_spec (ws := wsH_cut) B.pre w (List.mem_cons_of_mem _ h)⟩ hN B.returns B.notSynchronized hl9 hnil ko vo σo hko σ x1 ls hl ⟨hP, hD0.self, va_S.rf, hK⟩ hf

def rmS_readDisk : Room := { frames := 1, cells := 0, slots := 0, locals := 20 }
def mS_readDisk (σ : JS)  : Option (JS) :=
  jcp σ 16 24 15 24 (0 : Int32) (0 : Int32) (24 : Int32) fun σ1 =>
  some σ1
set_option maxHeartbeats 4000000 in
set_option maxRecDepth 100000 in
theorem bS_readDisk {p : Program} {l : Launch} {e : Env} {s : State} {m : MethodId} {args : Array Value} {below : List Frame} {meth : Method} {c : Code} {D : va_G} {ca : Nat → ClassId} {ad : Nat → Nat} {A : Nat → Prop} (hA : ∀ q, s.heap.size ≤ q → A q) (S : CallFix p m c cS_readDisk 1 s args jall RS) (hN : xN A s) (hr : meth.sig.returnType = none) (hlk : meth.locks = false) (out : JS) (σ : JS)  (ls : Array Slot) (hl : lv_has ls 1 [(0, .ref (ad 2))]) (hw : jH D (xT ca) (xC ca ad σ) A s.heap s.heap [] s) (hf : mS_readDisk σ  = some out) : W p l e (headSpec wsS_readDisk rmS_readDisk).room s m args below meth c s.heap [] 0 0 (MQ below (jQv D (xT ca) (xC ca ad) A out) args s 0 0 A) (F0 m 0 ls []) := by
  have hx := S.1
  have hb := S.2.1
  unfold mS_readDisk at hf
  refine lv_aload_n (pc := 0) hx hb dS_readDisk_0 rfl (lv_at hl 0 rfl) ?_
  refine j_get (pc := 1) (v := .ref (ad 16)) S hw inS 2 2 1 xg_2 rfl (by decide) k_85 rfl dS_readDisk_1 ?_
  refine lv_iconst (pc := 4) (v := (0 : Int32)) hx hb dS_readDisk_4 (by decide) ?_
  refine lv_aload_n (pc := 5) hx hb dS_readDisk_5 rfl (lv_at hl 0 rfl) ?_
  refine j_get (pc := 6) (v := .ref (ad 15)) S hw inS 2 2 0 xg_2 rfl (by decide) k_83 rfl dS_readDisk_6 ?_
  refine lv_iconst (pc := 9) (v := (0 : Int32)) hx hb dS_readDisk_9 (by decide) ?_
  refine lv_bipush (pc := 10) (v := (24 : Int32)) hx hb dS_readDisk_10 (by decide) ?_
  have hg := jcp_e hf; clear hf; obtain ⟨h3, h4, h5, h6, h7, σ1, e2, hf⟩ := hg
  refine j_copyi (pc := 12) (rest := []) (ws' := xC ca ad σ1) S hw hl.1 k_414 k_416 k_415 k_14 16 15 10 9 xg_16 xg_15 xt_16 xt_15 h3 h4 h5 h6 h7 (by rw [e2]; exact xa_15) (Nat.le_of_ble_eq_true rfl) (Nat.le_of_ble_eq_true rfl) dS_readDisk_12 (fun H locs hw => ?_)
  obtain rfl := jsm hf
  exact j_vret (pc := 15) S hw hr hlk dS_readDisk_15
set_option maxHeartbeats 4000000 in
set_option maxRecDepth 100000 in
theorem kS_readDisk (l : Launch) (D : va_G) (ca : Nat → ClassId) (ad : Nat → Nat) (sz : Nat) (σ : JS)  (out : JS) (hf : mS_readDisk σ  = some out) : Met l yS_readDisk wsS_readDisk rmS_readDisk (jPre D (xT ca) (xC ca ad σ) (xN (va_A (xC ca ad σ) sz)) sz [.ref (ad 2)]) (jQv D (xT ca) (xC ca ad) (va_A (xC ca ad σ) sz) out) 0 0 (va_A (xC ca ad σ) sz) := by
  refine Met.ofW (cc := cS_readDisk) (maxL := 1) (ret := none) (by decide) rfl ?_
  intro p e s m args below meth c s₁ B hml hv
  obtain ⟨rfl, hsz, hP, hK, hD0, hN⟩ := hv
  subst hsz
  have hl := lv_entry [.ref (ad 2)] (n := 1) (Nat.le_of_ble_eq_true rfl)
  rw [lg_entry_eq]
  generalize (lg_sl [.ref (ad 2)] ++ List.replicate (1 - (lg_sl [.ref (ad 2)]).length) Slot.unset).toArray = ls at hl ⊢
  exact bS_readDisk (fun q h => Or.inr h) ⟨B.exec, B.bytes, hml, findClass_of_methodNamed B.named, fun w h => atoms_spec (ws := wsS_readDisk) B.pre w (List.mem_cons_of_mem _ h)⟩ hN B.returns B.notSynchronized out σ  ls hl ⟨hP, hD0.self, va_S.rf, hK⟩ hf

def rmS_writeDisk : Room := { frames := 1, cells := 0, slots := 0, locals := 20 }
def mS_writeDisk (σ : JS)  : Option (JS) :=
  jcp σ 15 24 16 24 (0 : Int32) (0 : Int32) (24 : Int32) fun σ1 =>
  some σ1
set_option maxHeartbeats 4000000 in
set_option maxRecDepth 100000 in
theorem bS_writeDisk {p : Program} {l : Launch} {e : Env} {s : State} {m : MethodId} {args : Array Value} {below : List Frame} {meth : Method} {c : Code} {D : va_G} {ca : Nat → ClassId} {ad : Nat → Nat} {A : Nat → Prop} (hA : ∀ q, s.heap.size ≤ q → A q) (S : CallFix p m c cS_writeDisk 1 s args jall RS) (hN : xN A s) (hr : meth.sig.returnType = none) (hlk : meth.locks = false) (out : JS) (σ : JS)  (ls : Array Slot) (hl : lv_has ls 1 [(0, .ref (ad 2))]) (hw : jH D (xT ca) (xC ca ad σ) A s.heap s.heap [] s) (hf : mS_writeDisk σ  = some out) : W p l e (headSpec wsS_writeDisk rmS_writeDisk).room s m args below meth c s.heap [] 0 0 (MQ below (jQv D (xT ca) (xC ca ad) A out) args s 0 0 A) (F0 m 0 ls []) := by
  have hx := S.1
  have hb := S.2.1
  unfold mS_writeDisk at hf
  refine lv_aload_n (pc := 0) hx hb dS_writeDisk_0 rfl (lv_at hl 0 rfl) ?_
  refine j_get (pc := 1) (v := .ref (ad 15)) S hw inS 2 2 0 xg_2 rfl (by decide) k_83 rfl dS_writeDisk_1 ?_
  refine lv_iconst (pc := 4) (v := (0 : Int32)) hx hb dS_writeDisk_4 (by decide) ?_
  refine lv_aload_n (pc := 5) hx hb dS_writeDisk_5 rfl (lv_at hl 0 rfl) ?_
  refine j_get (pc := 6) (v := .ref (ad 16)) S hw inS 2 2 1 xg_2 rfl (by decide) k_85 rfl dS_writeDisk_6 ?_
  refine lv_iconst (pc := 9) (v := (0 : Int32)) hx hb dS_writeDisk_9 (by decide) ?_
  refine lv_bipush (pc := 10) (v := (24 : Int32)) hx hb dS_writeDisk_10 (by decide) ?_
  have hg := jcp_e hf; clear hf; obtain ⟨h3, h4, h5, h6, h7, σ1, e2, hf⟩ := hg
  refine j_copyi (pc := 12) (rest := []) (ws' := xC ca ad σ1) S hw hl.1 k_414 k_416 k_415 k_14 15 16 9 10 xg_15 xg_16 xt_15 xt_16 h3 h4 h5 h6 h7 (by rw [e2]; exact xa_16) (Nat.le_of_ble_eq_true rfl) (Nat.le_of_ble_eq_true rfl) dS_writeDisk_12 (fun H locs hw => ?_)
  obtain rfl := jsm hf
  exact j_vret (pc := 15) S hw hr hlk dS_writeDisk_15
set_option maxHeartbeats 4000000 in
set_option maxRecDepth 100000 in
theorem kS_writeDisk (l : Launch) (D : va_G) (ca : Nat → ClassId) (ad : Nat → Nat) (sz : Nat) (σ : JS)  (out : JS) (hf : mS_writeDisk σ  = some out) : Met l yS_writeDisk wsS_writeDisk rmS_writeDisk (jPre D (xT ca) (xC ca ad σ) (xN (va_A (xC ca ad σ) sz)) sz [.ref (ad 2)]) (jQv D (xT ca) (xC ca ad) (va_A (xC ca ad σ) sz) out) 0 0 (va_A (xC ca ad σ) sz) := by
  refine Met.ofW (cc := cS_writeDisk) (maxL := 1) (ret := none) (by decide) rfl ?_
  intro p e s m args below meth c s₁ B hml hv
  obtain ⟨rfl, hsz, hP, hK, hD0, hN⟩ := hv
  subst hsz
  have hl := lv_entry [.ref (ad 2)] (n := 1) (Nat.le_of_ble_eq_true rfl)
  rw [lg_entry_eq]
  generalize (lg_sl [.ref (ad 2)] ++ List.replicate (1 - (lg_sl [.ref (ad 2)]).length) Slot.unset).toArray = ls at hl ⊢
  exact bS_writeDisk (fun q h => Or.inr h) ⟨B.exec, B.bytes, hml, findClass_of_methodNamed B.named, fun w h => atoms_spec (ws := wsS_writeDisk) B.pre w (List.mem_cons_of_mem _ h)⟩ hN B.returns B.notSynchronized out σ  ls hl ⟨hP, hD0.self, va_S.rf, hK⟩ hf

