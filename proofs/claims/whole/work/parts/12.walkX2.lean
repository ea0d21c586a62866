def rmJ_isCycleOn : Room := { frames := 1, cells := 0, slots := 0, locals := 22 }
def mJ_isCycleOn (σ : JS) (x1 : Int32) : Option (Int32) :=
  jbn (mJ_isBoundary σ x1 (σ 100 0)) fun q1 =>
  if q1 = 0 then
  (some (1 : Int32))
  else
  (some (0 : Int32))
set_option maxHeartbeats 4000000 in
set_option maxRecDepth 100000 in
theorem bJ_isCycleOn {p : Program} {l : Launch} {e : Env} {s : State} {m : MethodId} {args : Array Value} {below : List Frame} {meth : Method} {c : Code} {D : va_G} {ca : Nat → ClassId} {ad : Nat → Nat} {A : Nat → Prop} (hA : ∀ q, s.heap.size ≤ q → A q) (S : CallFix p m c cJ_isCycleOn 2 s args jall RJ) (hN : xN A s) (hr : meth.sig.returnType = some .boolean) (hlk : meth.locks = false) (out : Int32) (σ : JS) (x1 : Int32) (ls : Array Slot) (hl : lv_has ls 2 [(0, .ref (ad 1)), (1, .int x1)]) (hw : jH D (xT ca) (xC ca ad σ) A s.heap s.heap [] s) (hf : mJ_isCycleOn σ x1 = some out) : W p l e (headSpec wsJ_isCycleOn rmJ_isCycleOn).room s m args below meth c s.heap [] 0 0 (MQ below (jSi out) args s 0 0 (fun _ => False)) (F0 m 0 ls []) := by
  have hx := S.1
  have hb := S.2.1
  unfold mJ_isCycleOn at hf
  refine lv_aload_n (pc := 0) hx hb dJ_isCycleOn_0 rfl (lv_at hl 0 rfl) ?_
  refine lv_iload_n (pc := 1) hx hb dJ_isCycleOn_1 rfl (lv_at hl 1 rfl) ?_
  refine lv_aload_n (pc := 2) hx hb dJ_isCycleOn_2 rfl (lv_at hl 0 rfl) ?_
  refine j_get (pc := 3) (v := .int (σ 100 0)) S hw inJ 1 1 9 xg_1 rfl (by decide) k_49 rfl dJ_isCycleOn_3 ?_
  have hg := jbn_e hf; clear hf; obtain ⟨q1, h2, hf⟩ := hg
  refine j_cpi (pc := 6) (v := q1) (va_runV (As := [.int x1, .int (σ 100 0)]) (rest := []) S (kJ_isBoundary l D ca ad _ σ x1 (σ 100 0) q1 h2) (cwV 2 S.2.2.2.2 (jgV k_448 k_232 k_233 k_2 k_234) rfl rfl rfl (by decide +kernel) ⟨Nat.le_of_ble_eq_true rfl, Nat.le_of_ble_eq_true rfl⟩) (j_preV (As := [.int x1, .int (σ 100 0)]) hw xN_b (xN_to hN hw hA) rfl xg_1) rfl rfl hl.1 rfl (lv_room (Nat.le_of_ble_eq_true rfl)) dJ_isCycleOn_6 ⟨Nat.le_of_ble_eq_true rfl, Nat.le_of_ble_eq_true rfl⟩) ?_
  refine lv_if_ne (pc := 9) (tgt := 16) hx hb dJ_isCycleOn_9 (by decide) (fun hc => ?_) (fun hc => ?_)
  · replace hf := jif hf hc
    refine lv_iconst (pc := 16) (v := (0 : Int32)) hx hb dJ_isCycleOn_16 (by decide) ?_
    obtain rfl := jsm hf
    exact j_zpr (pc := 17) S hr hlk (Or.inl rfl) dJ_isCycleOn_17
  · replace hf := jit hf hc
    refine lv_iconst (pc := 12) (v := (1 : Int32)) hx hb dJ_isCycleOn_12 (by decide) ?_
    refine lv_goto (pc := 13) (tgt := 17) hx hb dJ_isCycleOn_13 (by decide) ?_
    obtain rfl := jsm hf
    exact j_zpr (pc := 17) S hr hlk (Or.inr rfl) dJ_isCycleOn_17
set_option maxHeartbeats 4000000 in
set_option maxRecDepth 100000 in
theorem kJ_isCycleOn (l : Launch) (D : va_G) (ca : Nat → ClassId) (ad : Nat → Nat) (sz : Nat) (σ : JS) (x1 : Int32) (out : Int32) (hf : mJ_isCycleOn σ x1 = some out) : Met l yJ_isCycleOn wsJ_isCycleOn rmJ_isCycleOn (jPre D (xT ca) (xC ca ad σ) (xN (va_A (xC ca ad σ) sz)) sz [.ref (ad 1), .int x1]) (jSi out) 0 0 (fun _ => False) := by
  refine Met.ofW (cc := cJ_isCycleOn) (maxL := 2) (ret := some .boolean) (by decide) rfl ?_
  intro p e s m args below meth c s₁ B hml hv
  obtain ⟨rfl, hsz, hP, hK, hD0, hN⟩ := hv
  subst hsz
  have hl := lv_entry [.ref (ad 1), .int x1] (n := 2) (Nat.le_of_ble_eq_true rfl)
  rw [lg_entry_eq]
  generalize (lg_sl [.ref (ad 1), .int x1] ++ List.replicate (2 - (lg_sl [.ref (ad 1), .int x1]).length) Slot.unset).toArray = ls at hl ⊢
  exact bJ_isCycleOn (fun q h => Or.inr h) ⟨B.exec, B.bytes, hml, findClass_of_methodNamed B.named, fun w h => atoms_spec (ws := wsJ_isCycleOn) B.pre w (List.mem_cons_of_mem _ h)⟩ hN B.returns B.notSynchronized out σ x1 ls hl ⟨hP, hD0.self, va_S.rf, hK⟩ hf

def rmC_keep : Room := { frames := 1, cells := 0, slots := 0, locals := 21 }
def mC_keep (σ : JS) (x1 : Int32) (x2 : Int32) (x3 : Int32) : Option (JS) :=
  jwr σ 19 4 x1 (1 : Int32) fun σ1 =>
  jwr σ1 20 4 x1 x2 fun σ4 =>
  jwr σ4 21 4 x1 x3 fun σ7 =>
  jbn (mH_cellOf σ7 x2 (0 : Int32)) fun q10 =>
  jcp σ7 15 24 22 32 q10 (x1 * (8 : Int32)) (8 : Int32) fun σ12 =>
  some σ12
set_option maxHeartbeats 4000000 in
set_option maxRecDepth 100000 in
theorem bC_keep {p : Program} {l : Launch} {e : Env} {s : State} {m : MethodId} {args : Array Value} {below : List Frame} {meth : Method} {c : Code} {D : va_G} {ca : Nat → ClassId} {ad : Nat → Nat} {A : Nat → Prop} (hA : ∀ q, s.heap.size ≤ q → A q) (S : CallFix p m c cC_keep 5 s args jall RC) (hN : xN A s) (hr : meth.sig.returnType = none) (hlk : meth.locks = false) (out : JS) (σ : JS) (x1 : Int32) (x2 : Int32) (x3 : Int32) (ls : Array Slot) (hl : lv_has ls 5 [(0, .ref (ad 3)), (1, .int x1), (2, .int x2), (3, .int x3), (4, .ref (ad 15))]) (hw : jH D (xT ca) (xC ca ad σ) A s.heap s.heap [] s) (hf : mC_keep σ x1 x2 x3 = some out) : W p l e (headSpec wsC_keep rmC_keep).room s m args below meth c s.heap [] 0 0 (MQ below (jQv D (xT ca) (xC ca ad) A out) args s 0 0 A) (F0 m 0 ls []) := by
  have hx := S.1
  have hb := S.2.1
  unfold mC_keep at hf
  refine lv_aload_n (pc := 0) hx hb dC_keep_0 rfl (lv_at hl 0 rfl) ?_
  refine j_get (pc := 1) (v := .ref (ad 19)) S hw inC 3 3 0 xg_3 rfl (by decide) k_108 rfl dC_keep_1 ?_
  refine lv_iload_n (pc := 4) hx hb dC_keep_4 rfl (lv_at hl 1 rfl) ?_
  refine lv_iconst (pc := 5) (v := (1 : Int32)) hx hb dC_keep_5 (by decide) ?_
  have hg := jwr_e hf; clear hf; obtain ⟨h2, σ1, e3, hf⟩ := hg
  refine j_zast (pc := 6) (ws' := xC ca ad σ1) S hw 19 13 xg_19 xt_19 h2 rfl (by rw [e3]; exact xs_19) dC_keep_6 (fun H locs hw => ?_)
  refine lv_aload_n (pc := 7) hx hb dC_keep_7 rfl (lv_at hl 0 rfl) ?_
  refine j_get (pc := 8) (v := .ref (ad 20)) S hw inC 3 3 1 xg_3 rfl (by decide) k_110 rfl dC_keep_8 ?_
  refine lv_iload_n (pc := 11) hx hb dC_keep_11 rfl (lv_at hl 1 rfl) ?_
  refine lv_iload_n (pc := 12) hx hb dC_keep_12 rfl (lv_at hl 2 rfl) ?_
  have hg := jwr_e hf; clear hf; obtain ⟨h5, σ4, e6, hf⟩ := hg
  refine j_iast (pc := 13) (ws' := xC ca ad σ4) S hw 20 14 xg_20 xt_20 h5 (by rw [e6]; exact xs_20) dC_keep_13 (fun H locs hw => ?_)
  refine lv_aload_n (pc := 14) hx hb dC_keep_14 rfl (lv_at hl 0 rfl) ?_
  refine j_get (pc := 15) (v := .ref (ad 21)) S hw inC 3 3 2 xg_3 rfl (by decide) k_112 rfl dC_keep_15 ?_
  refine lv_iload_n (pc := 18) hx hb dC_keep_18 rfl (lv_at hl 1 rfl) ?_
  refine lv_iload_n (pc := 19) hx hb dC_keep_19 rfl (lv_at hl 3 rfl) ?_
  have hg := jwr_e hf; clear hf; obtain ⟨h8, σ7, e9, hf⟩ := hg
  refine j_iast (pc := 20) (ws' := xC ca ad σ7) S hw 21 15 xg_21 xt_21 h8 (by rw [e9]; exact xs_21) dC_keep_20 (fun H locs hw => ?_)
  refine lv_aload (pc := 21) hx hb dC_keep_21 (lv_at hl 4 rfl) ?_
  refine lv_iload_n (pc := 23) hx hb dC_keep_23 rfl (lv_at hl 2 rfl) ?_
  refine lv_iconst (pc := 24) (v := (0 : Int32)) hx hb dC_keep_24 (by decide) ?_
  have hg := jbn_e hf; clear hf; obtain ⟨q10, h11, hf⟩ := hg
  refine j_cpi (pc := 25) (v := q10) (va_runSN (host := "JournalHouse") (As := [.int x2, .int (0 : Int32)]) (rest := [.ref (ad 15)]) S (kH_cellOf l D ca ad _ σ7 x2 (0 : Int32) q10 h11) ⟨va_cnB 2 S.2.2.2.2 (jgN k_213) rfl rfl rfl (xN_w hN b_453 _) (S.2.2.2.2 _ k_1) (by decide +kernel) ⟨Nat.le_of_ble_eq_true rfl, Nat.le_of_ble_eq_true rfl⟩, S.2.2.2.2 _ k_212, trivial⟩ (j_preS hw xN_b (xN_to hN hw hA)) rfl rfl hl.1 rfl (lv_room (Nat.le_of_ble_eq_true rfl)) dC_keep_25 ⟨Nat.le_of_ble_eq_true rfl, Nat.le_of_ble_eq_true rfl⟩) ?_
  refine lv_aload_n (pc := 28) hx hb dC_keep_28 rfl (lv_at hl 0 rfl) ?_
  refine j_get (pc := 29) (v := .ref (ad 22)) S hw inC 3 3 3 xg_3 rfl (by decide) k_114 rfl dC_keep_29 ?_
  refine lv_iload_n (pc := 32) hx hb dC_keep_32 rfl (lv_at hl 1 rfl) ?_
  refine lv_bipush (pc := 33) (v := (8 : Int32)) hx hb dC_keep_33 (by decide) ?_
  refine lv_imul (pc := 35) hx hb dC_keep_35 ?_
  refine lv_bipush (pc := 36) (v := (8 : Int32)) hx hb dC_keep_36 (by decide) ?_
  have hg := jcp_e hf; clear hf; obtain ⟨h14, h15, h16, h17, h18, σ12, e13, hf⟩ := hg
  refine j_copyi (pc := 38) (rest := []) (ws' := xC ca ad σ12) S hw hl.1 k_454 k_416 k_415 k_14 15 22 9 16 xg_15 xg_22 xt_15 xt_22 h14 h15 h16 h17 h18 (by rw [e13]; exact xa_22) (Nat.le_of_ble_eq_true rfl) (Nat.le_of_ble_eq_true rfl) dC_keep_38 (fun H locs hw => ?_)
  obtain rfl := jsm hf
  exact j_vret (pc := 41) S hw hr hlk dC_keep_41
set_option maxHeartbeats 4000000 in
set_option maxRecDepth 100000 in
theorem kC_keep (l : Launch) (D : va_G) (ca : Nat → ClassId) (ad : Nat → Nat) (sz : Nat) (σ : JS) (x1 : Int32) (x2 : Int32) (x3 : Int32) (out : JS) (hf : mC_keep σ x1 x2 x3 = some out) : Met l yC_keep wsC_keep rmC_keep (jPre D (xT ca) (xC ca ad σ) (xN (va_A (xC ca ad σ) sz)) sz [.ref (ad 3), .int x1, .int x2, .int x3, .ref (ad 15)]) (jQv D (xT ca) (xC ca ad) (va_A (xC ca ad σ) sz) out) 0 0 (va_A (xC ca ad σ) sz) := by
  refine Met.ofW (cc := cC_keep) (maxL := 5) (ret := none) (by decide) rfl ?_
  intro p e s m args below meth c s₁ B hml hv
  obtain ⟨rfl, hsz, hP, hK, hD0, hN⟩ := hv
  subst hsz
  have hl := lv_entry [.ref (ad 3), .int x1, .int x2, .int x3, .ref (ad 15)] (n := 5) (Nat.le_of_ble_eq_true rfl)
  rw [lg_entry_eq]
  generalize (lg_sl [.ref (ad 3), .int x1, .int x2, .int x3, .ref (ad 15)] ++ List.replicate (5 - (lg_sl [.ref (ad 3), .int x1, .int x2, .int x3, .ref (ad 15)]).length) Slot.unset).toArray = ls at hl ⊢
  exact bC_keep (fun q h => Or.inr h) ⟨B.exec, B.bytes, hml, findClass_of_methodNamed B.named, fun w h => atoms_spec (ws := wsC_keep) B.pre w (List.mem_cons_of_mem _ h)⟩ hN B.returns B.notSynchronized out σ x1 x2 x3 ls hl ⟨hP, hD0.self, va_S.rf, hK⟩ hf

def rmH_countUnwanted : Room := { frames := 1, cells := 0, slots := 0, locals := 21 }
def mH_countUnwanted_L4 (σ : JS) (x1 : Int32) : Nat → Int32 → Int32 → Option (Int32)
  | 0, _, _ => none
  | n + 1, x2, x3 =>
    jrd σ 26 3 x1 fun v1 =>
    if v1 ≤ x3 then
    (some x2)
    else
    (jbn (mH_cellOf σ x1 x3) fun q4 =>
    jrd σ 15 24 q4 fun v6 =>
    jrd σ 29 8 x3 fun v9 =>
    if v6 = v9 then
    (mH_countUnwanted_L4 σ x1 n x2 (x3 + 1))
    else
    (mH_countUnwanted_L4 σ x1 n (x2 + 1) (x3 + 1)))
def mH_countUnwanted (σ : JS) (x1 : Int32) : Option (Int32) :=
  mH_countUnwanted_L4 σ x1 999 (0 : Int32) (0 : Int32)
set_option maxHeartbeats 4000000 in
set_option maxRecDepth 100000 in
theorem wmH_countUnwanted_L4 {p : Program} {l : Launch} {e : Env} {s : State} {m : MethodId} {args : Array Value} {below : List Frame} {meth : Method} {c : Code} {D : va_G} {ca : Nat → ClassId} {ad : Nat → Nat} {A : Nat → Prop} (hA : ∀ q, s.heap.size ≤ q → A q) (S : CallFix p m c cH_countUnwanted 4 s args jall RH) (hN : xN A s) (hr : meth.sig.returnType = some .int) (hlk : meth.locks = false) (out : Int32) (σ : JS) (x1 : Int32) : ∀ (n : Nat) (x2 : Int32) (x3 : Int32) (ls : Array Slot) , lv_has ls 4 [(0, .ref (ad 0)), (1, .int x1), (2, .int x2), (3, .int x3)] → jH D (xT ca) (xC ca ad σ) A s.heap s.heap [] s → mH_countUnwanted_L4 σ x1 n x2 x3 = some out → W p l e (headSpec wsH_countUnwanted rmH_countUnwanted).room s m args below meth c s.heap [] 0 0 (MQ below (jSi out) args s 0 0 (fun _ => False)) (F0 m 4 ls []) := by
  have hx := S.1
  have hb := S.2.1
  intro n
  induction n with
  | zero => intro x2 x3 ls hl hw hf; cases hf
  | succ n ih =>
    intro x2 x3 ls hl hw hf
    rw [mH_countUnwanted_L4] at hf
    refine lv_iload_n (pc := 4) hx hb dH_countUnwanted_4 rfl (lv_at hl 3 rfl) ?_
    refine lv_aload_n (pc := 5) hx hb dH_countUnwanted_5 rfl (lv_at hl 0 rfl) ?_
    refine j_get (pc := 6) (v := .ref (ad 26)) S hw inH 0 0 5 xg_0 rfl (by decide) k_167 rfl dH_countUnwanted_6 ?_
    refine lv_iload_n (pc := 9) hx hb dH_countUnwanted_9 rfl (lv_at hl 1 rfl) ?_
    have hg := jrd_e hf; clear hf; obtain ⟨h2, v1, e3, hf⟩ := hg
    refine j_iald (pc := 10) S hw 26 20 xg_26 xt_26 h2 e3 dH_countUnwanted_10 ?_
    refine lv_icmp_ge (pc := 11) (tgt := 45) hx hb dH_countUnwanted_11 (by decide) (fun hc => ?_) (fun hc => ?_)
    · replace hf := jit hf hc
      refine lv_iload_n (pc := 45) hx hb dH_countUnwanted_45 rfl (lv_at hl 2 rfl) ?_
      obtain rfl := jsm hf
      exact j_ipr (pc := 46) S hr hlk dH_countUnwanted_46
    · replace hf := jif hf hc
      refine lv_aload_n (pc := 14) hx hb dH_countUnwanted_14 rfl (lv_at hl 0 rfl) ?_
      refine j_get (pc := 15) (v := .ref (ad 2)) S hw inH 0 0 1 xg_0 rfl (by decide) k_163 rfl dH_countUnwanted_15 ?_
      refine j_get (pc := 18) (v := .ref (ad 15)) S hw inS 2 2 0 xg_2 rfl (by decide) k_84 rfl dH_countUnwanted_18 ?_
      refine lv_iload_n (pc := 21) hx hb dH_countUnwanted_21 rfl (lv_at hl 1 rfl) ?_
      refine lv_iload_n (pc := 22) hx hb dH_countUnwanted_22 rfl (lv_at hl 3 rfl) ?_
      have hg := jbn_e hf; clear hf; obtain ⟨q4, h5, hf⟩ := hg
      refine j_cpi (pc := 23) (v := q4) (va_runS (As := [.int x1, .int x3]) (rest := [.ref (ad 15)]) S (kH_cellOf l D ca ad _ σ x1 x3 q4 h5) (cwS 2 S.2.2.2.2 (jgS k_211 k_212 k_1 k_213) rfl rfl rfl (by decide +kernel) ⟨Nat.le_of_ble_eq_true rfl, Nat.le_of_ble_eq_true rfl⟩) (j_preS hw xN_b (xN_to hN hw hA)) rfl rfl hl.1 rfl (lv_room (Nat.le_of_ble_eq_true rfl)) dH_countUnwanted_23 ⟨Nat.le_of_ble_eq_true rfl, Nat.le_of_ble_eq_true rfl⟩) ?_
      have hg := jrd_e hf; clear hf; obtain ⟨h7, v6, e8, hf⟩ := hg
      refine j_iald (pc := 26) S hw 15 9 xg_15 xt_15 h7 e8 dH_countUnwanted_26 ?_
      refine lv_aload_n (pc := 27) hx hb dH_countUnwanted_27 rfl (lv_at hl 0 rfl) ?_
      refine j_get (pc := 28) (v := .ref (ad 29)) S hw inH 0 0 8 xg_0 rfl (by decide) k_170 rfl dH_countUnwanted_28 ?_
      refine lv_iload_n (pc := 31) hx hb dH_countUnwanted_31 rfl (lv_at hl 3 rfl) ?_
      have hg := jrd_e hf; clear hf; obtain ⟨h10, v9, e11, hf⟩ := hg
      refine j_iald (pc := 32) S hw 29 23 xg_29 xt_29 h10 e11 dH_countUnwanted_32 ?_
      refine lv_icmp_eq (pc := 33) (tgt := 39) hx hb dH_countUnwanted_33 (by decide) (fun hc => ?_) (fun hc => ?_)
      · replace hf := jit hf hc
        refine lv_iinc (pc := 39) (v := (x3 + 1)) (k := 3) (lv' := [(3, .int (x3 + 1)), (0, .ref (ad 0)), (1, .int x1), (2, .int x2)]) hx hb dH_countUnwanted_39 hl rfl (j_inc _ (by decide)) (by decide) rfl (fun ls hl => ?_)
        refine lv_goto (pc := 42) (tgt := 4) hx hb dH_countUnwanted_42 (by decide) ?_
        exact ih x2 (x3 + 1) _ (lv_sub hl [1, 2, 3, 0] rfl) hw hf
      · replace hf := jif hf hc
        refine lv_iinc (pc := 36) (v := (x2 + 1)) (k := 2) (lv' := [(2, .int (x2 + 1)), (0, .ref (ad 0)), (1, .int x1), (3, .int x3)]) hx hb dH_countUnwanted_36 hl rfl (j_inc _ (by decide)) (by decide) rfl (fun ls hl => ?_)
        refine lv_iinc (pc := 39) (v := (x3 + 1)) (k := 3) (lv' := [(3, .int (x3 + 1)), (2, .int (x2 + 1)), (0, .ref (ad 0)), (1, .int x1)]) hx hb dH_countUnwanted_39 hl rfl (j_inc _ (by decide)) (by decide) rfl (fun ls hl => ?_)
        refine lv_goto (pc := 42) (tgt := 4) hx hb dH_countUnwanted_42 (by decide) ?_
        exact ih (x2 + 1) (x3 + 1) _ (lv_sub hl [2, 3, 1, 0] rfl) hw hf
set_option maxHeartbeats 4000000 in
set_option maxRecDepth 100000 in
theorem bH_countUnwanted {p : Program} {l : Launch} {e : Env} {s : State} {m : MethodId} {args : Array Value} {below : List Frame} {meth : Method} {c : Code} {D : va_G} {ca : Nat → ClassId} {ad : Nat → Nat} {A : Nat → Prop} (hA : ∀ q, s.heap.size ≤ q → A q) (S : CallFix p m c cH_countUnwanted 4 s args jall RH) (hN : xN A s) (hr : meth.sig.returnType = some .int) (hlk : meth.locks = false) (out : Int32) (σ : JS) (x1 : Int32) (ls : Array Slot) (hl : lv_has ls 4 [(0, .ref (ad 0)), (1, .int x1)]) (hw : jH D (xT ca) (xC ca ad σ) A s.heap s.heap [] s) (hf : mH_countUnwanted σ x1 = some out) : W p l e (headSpec wsH_countUnwanted rmH_countUnwanted).room s m args below meth c s.heap [] 0 0 (MQ below (jSi out) args s 0 0 (fun _ => False)) (F0 m 0 ls []) := by
  have hx := S.1
  have hb := S.2.1
  unfold mH_countUnwanted at hf
  refine lv_iconst (pc := 0) (v := (0 : Int32)) hx hb dH_countUnwanted_0 (by decide) ?_
  refine lv_istore_n (pc := 1) (lv' := [(2, .int (0 : Int32)), (0, .ref (ad 0)), (1, .int x1)]) hx hb dH_countUnwanted_1 rfl hl (by decide) rfl (fun ls hl => ?_)
  refine lv_iconst (pc := 2) (v := (0 : Int32)) hx hb dH_countUnwanted_2 (by decide) ?_
  refine lv_istore_n (pc := 3) (lv' := [(3, .int (0 : Int32)), (2, .int (0 : Int32)), (0, .ref (ad 0)), (1, .int x1)]) hx hb dH_countUnwanted_3 rfl hl (by decide) rfl (fun ls hl => ?_)
  exact wmH_countUnwanted_L4 hA S hN hr hlk out σ x1 999 (0 : Int32) (0 : Int32) _ (lv_sub hl [2, 3, 1, 0] rfl) hw hf
set_option maxHeartbeats 4000000 in
set_option maxRecDepth 100000 in
theorem kH_countUnwanted (l : Launch) (D : va_G) (ca : Nat → ClassId) (ad : Nat → Nat) (sz : Nat) (σ : JS) (x1 : Int32) (out : Int32) (hf : mH_countUnwanted σ x1 = some out) : Met l yH_countUnwanted wsH_countUnwanted rmH_countUnwanted (jPre D (xT ca) (xC ca ad σ) (xN (va_A (xC ca ad σ) sz)) sz [.ref (ad 0), .int x1]) (jSi out) 0 0 (fun _ => False) := by
  refine Met.ofW (cc := cH_countUnwanted) (maxL := 4) (ret := some .int) (by decide) rfl ?_
  intro p e s m args below meth c s₁ B hml hv
  obtain ⟨rfl, hsz, hP, hK, hD0, hN⟩ := hv
  subst hsz
  have hl := lv_entry [.ref (ad 0), .int x1] (n := 4) (Nat.le_of_ble_eq_true rfl)
  rw [lg_entry_eq]
  generalize (lg_sl [.ref (ad 0), .int x1] ++ List.replicate (4 - (lg_sl [.ref (ad 0), .int x1]).length) Slot.unset).toArray = ls at hl ⊢
  exact bH_countUnwanted (fun q h => Or.inr h) ⟨B.exec, B.bytes, hml, findClass_of_methodNamed B.named, fun w h => atoms_spec (ws := wsH_countUnwanted) B.pre w (List.mem_cons_of_mem _ h)⟩ hN B.returns B.notSynchronized out σ x1 ls hl ⟨hP, hD0.self, va_S.rf, hK⟩ hf

def rmJ_refusesOwnChanges : Room := { frames := 2, cells := 0, slots := 0, locals := 43 }
def mJ_refusesOwnChanges (σ : JS) (x1 : Int32) : Option (Int32) :=
  if x1 ≤ 0 then
  (some (0 : Int32))
  else
  (jbn (mJ_room σ ) fun q1 =>
  jbn (mJ_reserve σ ) fun q3 =>
  if q3 ≤ ((q1 - x1) - (1 : Int32)) then
  (some (0 : Int32))
  else
  (some (1 : Int32)))
set_option maxHeartbeats 4000000 in
set_option maxRecDepth 100000 in
theorem bJ_refusesOwnChanges {p : Program} {l : Launch} {e : Env} {s : State} {m : MethodId} {args : Array Value} {below : List Frame} {meth : Method} {c : Code} {D : va_G} {ca : Nat → ClassId} {ad : Nat → Nat} {A : Nat → Prop} (hA : ∀ q, s.heap.size ≤ q → A q) (S : CallFix p m c cJ_refusesOwnChanges 2 s args jall RJ) (hN : xN A s) (hr : meth.sig.returnType = some .boolean) (hlk : meth.locks = false) (out : Int32) (σ : JS) (x1 : Int32) (ls : Array Slot) (hl : lv_has ls 2 [(0, .ref (ad 1)), (1, .int x1)]) (hw : jH D (xT ca) (xC ca ad σ) A s.heap s.heap [] s) (hf : mJ_refusesOwnChanges σ x1 = some out) : W p l e (headSpec wsJ_refusesOwnChanges rmJ_refusesOwnChanges).room s m args below meth c s.heap [] 0 0 (MQ below (jSi out) args s 0 0 (fun _ => False)) (F0 m 0 ls []) := by
  have hx := S.1
  have hb := S.2.1
  unfold mJ_refusesOwnChanges at hf
  refine lv_iload_n (pc := 0) hx hb dJ_refusesOwnChanges_0 rfl (lv_at hl 1 rfl) ?_
  refine lv_if_le (pc := 1) (tgt := 23) hx hb dJ_refusesOwnChanges_1 (by decide) (fun hc => ?_) (fun hc => ?_)
  · replace hf := jit hf hc
    refine lv_iconst (pc := 23) (v := (0 : Int32)) hx hb dJ_refusesOwnChanges_23 (by decide) ?_
    obtain rfl := jsm hf
    exact j_zpr (pc := 24) S hr hlk (Or.inl rfl) dJ_refusesOwnChanges_24
  · replace hf := jif hf hc
    refine lv_aload_n (pc := 4) hx hb dJ_refusesOwnChanges_4 rfl (lv_at hl 0 rfl) ?_
    have hg := jbn_e hf; clear hf; obtain ⟨q1, h2, hf⟩ := hg
    refine j_cpi (pc := 5) (v := q1) (va_runV (As := []) (rest := []) S (kJ_room l D ca ad _ σ  q1 h2) (cwV 0 S.2.2.2.2 (jgV k_382 k_384 ks_2 k_2 k_385) rfl rfl rfl (by decide +kernel) ⟨Nat.le_of_ble_eq_true rfl, Nat.le_of_ble_eq_true rfl⟩) (j_preV (As := []) hw xN_b (xN_to hN hw hA) rfl xg_1) rfl rfl hl.1 rfl (lv_room (Nat.le_of_ble_eq_true rfl)) dJ_refusesOwnChanges_5 ⟨Nat.le_of_ble_eq_true rfl, Nat.le_of_ble_eq_true rfl⟩) ?_
    refine lv_iload_n (pc := 8) hx hb dJ_refusesOwnChanges_8 rfl (lv_at hl 1 rfl) ?_
    refine lv_isub (pc := 9) hx hb dJ_refusesOwnChanges_9 ?_
    refine lv_iconst (pc := 10) (v := (1 : Int32)) hx hb dJ_refusesOwnChanges_10 (by decide) ?_
    refine lv_isub (pc := 11) hx hb dJ_refusesOwnChanges_11 ?_
    refine lv_aload_n (pc := 12) hx hb dJ_refusesOwnChanges_12 rfl (lv_at hl 0 rfl) ?_
    have hg := jbn_e hf; clear hf; obtain ⟨q3, h4, hf⟩ := hg
    refine j_cpi (pc := 13) (v := q3) (va_runV (As := []) (rest := [.int ((q1 - x1) - (1 : Int32))]) S (kJ_reserve l D ca ad _ σ  q3 h4) (cwV 0 S.2.2.2.2 (jgV k_389 k_391 ks_3 k_2 k_392) rfl rfl rfl (by decide +kernel) ⟨Nat.le_of_ble_eq_true rfl, Nat.le_of_ble_eq_true rfl⟩) (j_preV (As := []) hw xN_b (xN_to hN hw hA) rfl xg_1) rfl rfl hl.1 rfl (lv_room (Nat.le_of_ble_eq_true rfl)) dJ_refusesOwnChanges_13 ⟨Nat.le_of_ble_eq_true rfl, Nat.le_of_ble_eq_true rfl⟩) ?_
    refine lv_icmp_ge (pc := 16) (tgt := 23) hx hb dJ_refusesOwnChanges_16 (by decide) (fun hc => ?_) (fun hc => ?_)
    · replace hf := jit hf hc
      refine lv_iconst (pc := 23) (v := (0 : Int32)) hx hb dJ_refusesOwnChanges_23 (by decide) ?_
      obtain rfl := jsm hf
      exact j_zpr (pc := 24) S hr hlk (Or.inl rfl) dJ_refusesOwnChanges_24
    · replace hf := jif hf hc
      refine lv_iconst (pc := 19) (v := (1 : Int32)) hx hb dJ_refusesOwnChanges_19 (by decide) ?_
      refine lv_goto (pc := 20) (tgt := 24) hx hb dJ_refusesOwnChanges_20 (by decide) ?_
      obtain rfl := jsm hf
      exact j_zpr (pc := 24) S hr hlk (Or.inr rfl) dJ_refusesOwnChanges_24
set_option maxHeartbeats 4000000 in
set_option maxRecDepth 100000 in
theorem kJ_refusesOwnChanges (l : Launch) (D : va_G) (ca : Nat → ClassId) (ad : Nat → Nat) (sz : Nat) (σ : JS) (x1 : Int32) (out : Int32) (hf : mJ_refusesOwnChanges σ x1 = some out) : Met l yJ_refusesOwnChanges wsJ_refusesOwnChanges rmJ_refusesOwnChanges (jPre D (xT ca) (xC ca ad σ) (xN (va_A (xC ca ad σ) sz)) sz [.ref (ad 1), .int x1]) (jSi out) 0 0 (fun _ => False) := by
  refine Met.ofW (cc := cJ_refusesOwnChanges) (maxL := 2) (ret := some .boolean) (by decide) rfl ?_
  intro p e s m args below meth c s₁ B hml hv
  obtain ⟨rfl, hsz, hP, hK, hD0, hN⟩ := hv
  subst hsz
  have hl := lv_entry [.ref (ad 1), .int x1] (n := 2) (Nat.le_of_ble_eq_true rfl)
  rw [lg_entry_eq]
  generalize (lg_sl [.ref (ad 1), .int x1] ++ List.replicate (2 - (lg_sl [.ref (ad 1), .int x1]).length) Slot.unset).toArray = ls at hl ⊢
  exact bJ_refusesOwnChanges (fun q h => Or.inr h) ⟨B.exec, B.bytes, hml, findClass_of_methodNamed B.named, fun w h => atoms_spec (ws := wsJ_refusesOwnChanges) B.pre w (List.mem_cons_of_mem _ h)⟩ hN B.returns B.notSynchronized out σ x1 ls hl ⟨hP, hD0.self, va_S.rf, hK⟩ hf

def rmJ_isChangeOf : Room := { frames := 1, cells := 0, slots := 0, locals := 20 }
def mJ_isChangeOf (σ : JS) (x1 : Int32) (x2 : Int32) : Option (Int32) :=
  jrd σ 6 121 x2 fun v1 =>
  if v1 = (1 : Int32) then
  (jrd σ 8 121 x2 fun v4 =>
  jbn (mH_fileOf σ v4) fun q7 =>
  if q7 = x1 then
  (some (1 : Int32))
  else
  (some (0 : Int32)))
  else
  (some (0 : Int32))
set_option maxHeartbeats 4000000 in
set_option maxRecDepth 100000 in
theorem bJ_isChangeOf {p : Program} {l : Launch} {e : Env} {s : State} {m : MethodId} {args : Array Value} {below : List Frame} {meth : Method} {c : Code} {D : va_G} {ca : Nat → ClassId} {ad : Nat → Nat} {A : Nat → Prop} (hA : ∀ q, s.heap.size ≤ q → A q) (S : CallFix p m c cJ_isChangeOf 3 s args jall RJ) (hN : xN A s) (hr : meth.sig.returnType = some .boolean) (hlk : meth.locks = false) (out : Int32) (σ : JS) (x1 : Int32) (x2 : Int32) (ls : Array Slot) (hl : lv_has ls 3 [(0, .ref (ad 1)), (1, .int x1), (2, .int x2)]) (hw : jH D (xT ca) (xC ca ad σ) A s.heap s.heap [] s) (hf : mJ_isChangeOf σ x1 x2 = some out) : W p l e (headSpec wsJ_isChangeOf rmJ_isChangeOf).room s m args below meth c s.heap [] 0 0 (MQ below (jSi out) args s 0 0 (fun _ => False)) (F0 m 0 ls []) := by
  have hx := S.1
  have hb := S.2.1
  unfold mJ_isChangeOf at hf
  refine lv_aload_n (pc := 0) hx hb dJ_isChangeOf_0 rfl (lv_at hl 0 rfl) ?_
  refine j_get (pc := 1) (v := .ref (ad 6)) S hw inJ 1 1 0 xg_1 rfl (by decide) k_29 rfl dJ_isChangeOf_1 ?_
  refine lv_iload_n (pc := 4) hx hb dJ_isChangeOf_4 rfl (lv_at hl 2 rfl) ?_
  have hg := jrd_e hf; clear hf; obtain ⟨h2, v1, e3, hf⟩ := hg
  refine j_iald (pc := 5) S hw 6 0 xg_6 xt_6 h2 e3 dJ_isChangeOf_5 ?_
  refine lv_iconst (pc := 6) (v := (1 : Int32)) hx hb dJ_isChangeOf_6 (by decide) ?_
  refine lv_icmp_ne (pc := 7) (tgt := 27) hx hb dJ_isChangeOf_7 (by decide) (fun hc => ?_) (fun hc => ?_)
  · replace hf := jif hf hc
    refine lv_iconst (pc := 27) (v := (0 : Int32)) hx hb dJ_isChangeOf_27 (by decide) ?_
    obtain rfl := jsm hf
    exact j_zpr (pc := 28) S hr hlk (Or.inl rfl) dJ_isChangeOf_28
  · replace hf := jit hf hc
    refine lv_aload_n (pc := 10) hx hb dJ_isChangeOf_10 rfl (lv_at hl 0 rfl) ?_
    refine j_get (pc := 11) (v := .ref (ad 8)) S hw inJ 1 1 2 xg_1 rfl (by decide) k_35 rfl dJ_isChangeOf_11 ?_
    refine lv_iload_n (pc := 14) hx hb dJ_isChangeOf_14 rfl (lv_at hl 2 rfl) ?_
    have hg := jrd_e hf; clear hf; obtain ⟨h5, v4, e6, hf⟩ := hg
    refine j_iald (pc := 15) S hw 8 2 xg_8 xt_8 h5 e6 dJ_isChangeOf_15 ?_
    have hg := jbn_e hf; clear hf; obtain ⟨q7, h8, hf⟩ := hg
    refine j_cpi (pc := 16) (v := q7) (va_runSN (host := "JournalHouse") (As := [.int v4]) (rest := []) S (kH_fileOf l D ca ad _ σ v4 q7 h8) ⟨va_cnB 1 S.2.2.2.2 (jgN k_253) rfl rfl rfl (xN_w hN b_401 _) (S.2.2.2.2 _ k_1) (by decide +kernel) ⟨Nat.le_of_ble_eq_true rfl, Nat.le_of_ble_eq_true rfl⟩, S.2.2.2.2 _ k_252, trivial⟩ (j_preS hw xN_b (xN_to hN hw hA)) rfl rfl hl.1 rfl (lv_room (Nat.le_of_ble_eq_true rfl)) dJ_isChangeOf_16 ⟨Nat.le_of_ble_eq_true rfl, Nat.le_of_ble_eq_true rfl⟩) ?_
    refine lv_iload_n (pc := 19) hx hb dJ_isChangeOf_19 rfl (lv_at hl 1 rfl) ?_
    refine lv_icmp_ne (pc := 20) (tgt := 27) hx hb dJ_isChangeOf_20 (by decide) (fun hc => ?_) (fun hc => ?_)
    · replace hf := jif hf hc
      refine lv_iconst (pc := 27) (v := (0 : Int32)) hx hb dJ_isChangeOf_27 (by decide) ?_
      obtain rfl := jsm hf
      exact j_zpr (pc := 28) S hr hlk (Or.inl rfl) dJ_isChangeOf_28
    · replace hf := jit hf hc
      refine lv_iconst (pc := 23) (v := (1 : Int32)) hx hb dJ_isChangeOf_23 (by decide) ?_
      refine lv_goto (pc := 24) (tgt := 28) hx hb dJ_isChangeOf_24 (by decide) ?_
      obtain rfl := jsm hf
      exact j_zpr (pc := 28) S hr hlk (Or.inr rfl) dJ_isChangeOf_28
set_option maxHeartbeats 4000000 in
set_option maxRecDepth 100000 in
theorem kJ_isChangeOf (l : Launch) (D : va_G) (ca : Nat → ClassId) (ad : Nat → Nat) (sz : Nat) (σ : JS) (x1 : Int32) (x2 : Int32) (out : Int32) (hf : mJ_isChangeOf σ x1 x2 = some out) : Met l yJ_isChangeOf wsJ_isChangeOf rmJ_isChangeOf (jPre D (xT ca) (xC ca ad σ) (xN (va_A (xC ca ad σ) sz)) sz [.ref (ad 1), .int x1, .int x2]) (jSi out) 0 0 (fun _ => False) := by
  refine Met.ofW (cc := cJ_isChangeOf) (maxL := 3) (ret := some .boolean) (by decide) rfl ?_
  intro p e s m args below meth c s₁ B hml hv
  obtain ⟨rfl, hsz, hP, hK, hD0, hN⟩ := hv
  subst hsz
  have hl := lv_entry [.ref (ad 1), .int x1, .int x2] (n := 3) (Nat.le_of_ble_eq_true rfl)
  rw [lg_entry_eq]
  generalize (lg_sl [.ref (ad 1), .int x1, .int x2] ++ List.replicate (3 - (lg_sl [.ref (ad 1), .int x1, .int x2]).length) Slot.unset).toArray = ls at hl ⊢
  exact bJ_isChangeOf (fun q h => Or.inr h) ⟨B.exec, B.bytes, hml, findClass_of_methodNamed B.named, fun w h => atoms_spec (ws := wsJ_isChangeOf) B.pre w (List.mem_cons_of_mem _ h)⟩ hN B.returns B.notSynchronized out σ x1 x2 ls hl ⟨hP, hD0.self, va_S.rf, hK⟩ hf

def rmJ_isKept : Room := { frames := 1, cells := 0, slots := 0, locals := 20 }
def mJ_isKept (σ : JS) (x1 : Int32) : Option (Int32) :=
  jbn (mJ_startOfOldest σ ) fun q1 =>
  if x1 < q1 then
  (some (0 : Int32))
  else
  (if (σ 100 0) < x1 then
  (some (0 : Int32))
  else
  (some (1 : Int32)))
set_option maxHeartbeats 4000000 in
set_option maxRecDepth 100000 in
theorem bJ_isKept {p : Program} {l : Launch} {e : Env} {s : State} {m : MethodId} {args : Array Value} {below : List Frame} {meth : Method} {c : Code} {D : va_G} {ca : Nat → ClassId} {ad : Nat → Nat} {A : Nat → Prop} (hA : ∀ q, s.heap.size ≤ q → A q) (S : CallFix p m c cJ_isKept 2 s args jall RJ) (hN : xN A s) (hr : meth.sig.returnType = some .boolean) (hlk : meth.locks = false) (out : Int32) (σ : JS) (x1 : Int32) (ls : Array Slot) (hl : lv_has ls 2 [(0, .ref (ad 1)), (1, .int x1)]) (hw : jH D (xT ca) (xC ca ad σ) A s.heap s.heap [] s) (hf : mJ_isKept σ x1 = some out) : W p l e (headSpec wsJ_isKept rmJ_isKept).room s m args below meth c s.heap [] 0 0 (MQ below (jSi out) args s 0 0 (fun _ => False)) (F0 m 0 ls []) := by
  have hx := S.1
  have hb := S.2.1
  unfold mJ_isKept at hf
  refine lv_iload_n (pc := 0) hx hb dJ_isKept_0 rfl (lv_at hl 1 rfl) ?_
  refine lv_aload_n (pc := 1) hx hb dJ_isKept_1 rfl (lv_at hl 0 rfl) ?_
  have hg := jbn_e hf; clear hf; obtain ⟨q1, h2, hf⟩ := hg
  refine j_cpi (pc := 2) (v := q1) (va_runV (As := []) (rest := [.int x1]) S (kJ_startOfOldest l D ca ad _ σ  q1 h2) (cwV 0 S.2.2.2.2 (jgV k_243 k_244 k_245 k_2 k_246) rfl rfl rfl (by decide +kernel) ⟨Nat.le_of_ble_eq_true rfl, Nat.le_of_ble_eq_true rfl⟩) (j_preV (As := []) hw xN_b (xN_to hN hw hA) rfl xg_1) rfl rfl hl.1 rfl (lv_room (Nat.le_of_ble_eq_true rfl)) dJ_isKept_2 ⟨Nat.le_of_ble_eq_true rfl, Nat.le_of_ble_eq_true rfl⟩) ?_
  refine lv_icmp_lt (pc := 5) (tgt := 20) hx hb dJ_isKept_5 (by decide) (fun hc => ?_) (fun hc => ?_)
  · replace hf := jit hf hc
    refine lv_iconst (pc := 20) (v := (0 : Int32)) hx hb dJ_isKept_20 (by decide) ?_
    obtain rfl := jsm hf
    exact j_zpr (pc := 21) S hr hlk (Or.inl rfl) dJ_isKept_21
  · replace hf := jif hf hc
    refine lv_iload_n (pc := 8) hx hb dJ_isKept_8 rfl (lv_at hl 1 rfl) ?_
    refine lv_aload_n (pc := 9) hx hb dJ_isKept_9 rfl (lv_at hl 0 rfl) ?_
    refine j_get (pc := 10) (v := .int (σ 100 0)) S hw inJ 1 1 9 xg_1 rfl (by decide) k_49 rfl dJ_isKept_10 ?_
    refine lv_icmp_gt (pc := 13) (tgt := 20) hx hb dJ_isKept_13 (by decide) (fun hc => ?_) (fun hc => ?_)
    · replace hf := jit hf hc
      refine lv_iconst (pc := 20) (v := (0 : Int32)) hx hb dJ_isKept_20 (by decide) ?_
      obtain rfl := jsm hf
      exact j_zpr (pc := 21) S hr hlk (Or.inl rfl) dJ_isKept_21
    · replace hf := jif hf hc
      refine lv_iconst (pc := 16) (v := (1 : Int32)) hx hb dJ_isKept_16 (by decide) ?_
      refine lv_goto (pc := 17) (tgt := 21) hx hb dJ_isKept_17 (by decide) ?_
      obtain rfl := jsm hf
      exact j_zpr (pc := 21) S hr hlk (Or.inr rfl) dJ_isKept_21
set_option maxHeartbeats 4000000 in
set_option maxRecDepth 100000 in
theorem kJ_isKept (l : Launch) (D : va_G) (ca : Nat → ClassId) (ad : Nat → Nat) (sz : Nat) (σ : JS) (x1 : Int32) (out : Int32) (hf : mJ_isKept σ x1 = some out) : Met l yJ_isKept wsJ_isKept rmJ_isKept (jPre D (xT ca) (xC ca ad σ) (xN (va_A (xC ca ad σ) sz)) sz [.ref (ad 1), .int x1]) (jSi out) 0 0 (fun _ => False) := by
  refine Met.ofW (cc := cJ_isKept) (maxL := 2) (ret := some .boolean) (by decide) rfl ?_
  intro p e s m args below meth c s₁ B hml hv
  obtain ⟨rfl, hsz, hP, hK, hD0, hN⟩ := hv
  subst hsz
  have hl := lv_entry [.ref (ad 1), .int x1] (n := 2) (Nat.le_of_ble_eq_true rfl)
  rw [lg_entry_eq]
  generalize (lg_sl [.ref (ad 1), .int x1] ++ List.replicate (2 - (lg_sl [.ref (ad 1), .int x1]).length) Slot.unset).toArray = ls at hl ⊢
  exact bJ_isKept (fun q h => Or.inr h) ⟨B.exec, B.bytes, hml, findClass_of_methodNamed B.named, fun w h => atoms_spec (ws := wsJ_isKept) B.pre w (List.mem_cons_of_mem _ h)⟩ hN B.returns B.notSynchronized out σ x1 ls hl ⟨hP, hD0.self, va_S.rf, hK⟩ hf

def rmJ_keepsChangesOf : Room := { frames := 2, cells := 0, slots := 0, locals := 42 }
def mJ_keepsChangesOf_L5 (σ : JS) (x1 : Int32) (x3 : Int32) : Nat → Int32 → Option (Int32)
  | 0, _ => none
  | n + 1, x4 =>
    if x3 < x4 then
    (some (1 : Int32))
    else
    (jbn (mJ_isChangeOf σ x1 x4) fun q1 =>
    if q1 = 0 then
    (mJ_keepsChangesOf_L5 σ x1 x3 n (x4 + 1))
    else
    (jbn (mJ_isKept σ x4) fun q3 =>
    if q3 = 0 then
    (some (0 : Int32))
    else
    (mJ_keepsChangesOf_L5 σ x1 x3 n (x4 + 1))))
def mJ_keepsChangesOf (σ : JS) (x1 : Int32) (x2 : Int32) (x3 : Int32) : Option (Int32) :=
  mJ_keepsChangesOf_L5 σ x1 x3 999 (x2 + (1 : Int32))
set_option maxHeartbeats 4000000 in
set_option maxRecDepth 100000 in
theorem wmJ_keepsChangesOf_L5 {p : Program} {l : Launch} {e : Env} {s : State} {m : MethodId} {args : Array Value} {below : List Frame} {meth : Method} {c : Code} {D : va_G} {ca : Nat → ClassId} {ad : Nat → Nat} {A : Nat → Prop} (hA : ∀ q, s.heap.size ≤ q → A q) (S : CallFix p m c cJ_keepsChangesOf 5 s args jall RJ) (hN : xN A s) (hr : meth.sig.returnType = some .boolean) (hlk : meth.locks = false) (out : Int32) (σ : JS) (x1 : Int32) (x3 : Int32) : ∀ (n : Nat) (x4 : Int32) (ls : Array Slot) , lv_has ls 5 [(0, .ref (ad 1)), (1, .int x1), (3, .int x3), (4, .int x4)] → jH D (xT ca) (xC ca ad σ) A s.heap s.heap [] s → mJ_keepsChangesOf_L5 σ x1 x3 n x4 = some out → W p l e (headSpec wsJ_keepsChangesOf rmJ_keepsChangesOf).room s m args below meth c s.heap [] 0 0 (MQ below (jSi out) args s 0 0 (fun _ => False)) (F0 m 5 ls []) := by
  have hx := S.1
  have hb := S.2.1
  intro n
  induction n with
  | zero => intro x4 ls hl hw hf; cases hf
  | succ n ih =>
    intro x4 ls hl hw hf
    rw [mJ_keepsChangesOf_L5] at hf
    refine lv_iload (pc := 5) hx hb dJ_keepsChangesOf_5 (lv_at hl 3 rfl) ?_
    refine lv_iload_n (pc := 7) hx hb dJ_keepsChangesOf_7 rfl (lv_at hl 2 rfl) ?_
    refine lv_icmp_gt (pc := 8) (tgt := 38) hx hb dJ_keepsChangesOf_8 (by decide) (fun hc => ?_) (fun hc => ?_)
    · replace hf := jit hf hc
      refine lv_iconst (pc := 38) (v := (1 : Int32)) hx hb dJ_keepsChangesOf_38 (by decide) ?_
      obtain rfl := jsm hf
      exact j_zpr (pc := 39) S hr hlk (Or.inr rfl) dJ_keepsChangesOf_39
    · replace hf := jif hf hc
      refine lv_aload_n (pc := 11) hx hb dJ_keepsChangesOf_11 rfl (lv_at hl 0 rfl) ?_
      refine lv_iload_n (pc := 12) hx hb dJ_keepsChangesOf_12 rfl (lv_at hl 1 rfl) ?_
      refine lv_iload (pc := 13) hx hb dJ_keepsChangesOf_13 (lv_at hl 3 rfl) ?_
      have hg := jbn_e hf; clear hf; obtain ⟨q1, h2, hf⟩ := hg
      refine j_cpi (pc := 15) (v := q1) (va_runV (As := [.int x1, .int x4]) (rest := []) S (kJ_isChangeOf l D ca ad _ σ x1 x4 q1 h2) (cwV 2 S.2.2.2.2 (jgV k_490 k_491 k_492 k_2 k_493) rfl rfl rfl (by decide +kernel) ⟨Nat.le_of_ble_eq_true rfl, Nat.le_of_ble_eq_true rfl⟩) (j_preV (As := [.int x1, .int x4]) hw xN_b (xN_to hN hw hA) rfl xg_1) rfl rfl hl.1 rfl (lv_room (Nat.le_of_ble_eq_true rfl)) dJ_keepsChangesOf_15 ⟨Nat.le_of_ble_eq_true rfl, Nat.le_of_ble_eq_true rfl⟩) ?_
      refine lv_if_eq (pc := 18) (tgt := 32) hx hb dJ_keepsChangesOf_18 (by decide) (fun hc => ?_) (fun hc => ?_)
      · replace hf := jit hf hc
        refine lv_iinc (pc := 32) (v := (x4 + 1)) (k := 3) (lv' := [(4, .int (x4 + 1)), (0, .ref (ad 1)), (1, .int x1), (3, .int x3)]) hx hb dJ_keepsChangesOf_32 hl rfl (j_inc _ (by decide)) (by decide) rfl (fun ls hl => ?_)
        refine lv_goto (pc := 35) (tgt := 5) hx hb dJ_keepsChangesOf_35 (by decide) ?_
        exact ih (x4 + 1) _ (lv_sub hl [1, 2, 3, 0] rfl) hw hf
      · replace hf := jif hf hc
        refine lv_aload_n (pc := 21) hx hb dJ_keepsChangesOf_21 rfl (lv_at hl 0 rfl) ?_
        refine lv_iload (pc := 22) hx hb dJ_keepsChangesOf_22 (lv_at hl 3 rfl) ?_
        have hg := jbn_e hf; clear hf; obtain ⟨q3, h4, hf⟩ := hg
        refine j_cpi (pc := 24) (v := q3) (va_runV (As := [.int x4]) (rest := []) S (kJ_isKept l D ca ad _ σ x4 q3 h4) (cwV 1 S.2.2.2.2 (jgV k_494 k_240 k_241 k_2 k_242) rfl rfl rfl (by decide +kernel) ⟨Nat.le_of_ble_eq_true rfl, Nat.le_of_ble_eq_true rfl⟩) (j_preV (As := [.int x4]) hw xN_b (xN_to hN hw hA) rfl xg_1) rfl rfl hl.1 rfl (lv_room (Nat.le_of_ble_eq_true rfl)) dJ_keepsChangesOf_24 ⟨Nat.le_of_ble_eq_true rfl, Nat.le_of_ble_eq_true rfl⟩) ?_
        refine lv_if_ne (pc := 27) (tgt := 32) hx hb dJ_keepsChangesOf_27 (by decide) (fun hc => ?_) (fun hc => ?_)
        · replace hf := jif hf hc
          refine lv_iinc (pc := 32) (v := (x4 + 1)) (k := 3) (lv' := [(4, .int (x4 + 1)), (0, .ref (ad 1)), (1, .int x1), (3, .int x3)]) hx hb dJ_keepsChangesOf_32 hl rfl (j_inc _ (by decide)) (by decide) rfl (fun ls hl => ?_)
          refine lv_goto (pc := 35) (tgt := 5) hx hb dJ_keepsChangesOf_35 (by decide) ?_
          exact ih (x4 + 1) _ (lv_sub hl [1, 2, 3, 0] rfl) hw hf
        · replace hf := jit hf hc
          refine lv_iconst (pc := 30) (v := (0 : Int32)) hx hb dJ_keepsChangesOf_30 (by decide) ?_
          obtain rfl := jsm hf
          exact j_zpr (pc := 31) S hr hlk (Or.inl rfl) dJ_keepsChangesOf_31
set_option maxHeartbeats 4000000 in
set_option maxRecDepth 100000 in
theorem bJ_keepsChangesOf {p : Program} {l : Launch} {e : Env} {s : State} {m : MethodId} {args : Array Value} {below : List Frame} {meth : Method} {c : Code} {D : va_G} {ca : Nat → ClassId} {ad : Nat → Nat} {A : Nat → Prop} (hA : ∀ q, s.heap.size ≤ q → A q) (S : CallFix p m c cJ_keepsChangesOf 5 s args jall RJ) (hN : xN A s) (hr : meth.sig.returnType = some .boolean) (hlk : meth.locks = false) (out : Int32) (σ : JS) (x1 : Int32) (x2 : Int32) (x3 : Int32) (ls : Array Slot) (hl : lv_has ls 5 [(0, .ref (ad 1)), (1, .int x1), (2, .int x2), (3, .int x3)]) (hw : jH D (xT ca) (xC ca ad σ) A s.heap s.heap [] s) (hf : mJ_keepsChangesOf σ x1 x2 x3 = some out) : W p l e (headSpec wsJ_keepsChangesOf rmJ_keepsChangesOf).room s m args below meth c s.heap [] 0 0 (MQ below (jSi out) args s 0 0 (fun _ => False)) (F0 m 0 ls []) := by
  have hx := S.1
  have hb := S.2.1
  unfold mJ_keepsChangesOf at hf
  refine lv_iload_n (pc := 0) hx hb dJ_keepsChangesOf_0 rfl (lv_at hl 2 rfl) ?_
  refine lv_iconst (pc := 1) (v := (1 : Int32)) hx hb dJ_keepsChangesOf_1 (by decide) ?_
  refine lv_iadd (pc := 2) hx hb dJ_keepsChangesOf_2 ?_
  refine lv_istore (pc := 3) (lv' := [(4, .int (x2 + (1 : Int32))), (0, .ref (ad 1)), (1, .int x1), (2, .int x2), (3, .int x3)]) hx hb dJ_keepsChangesOf_3 hl (by decide) rfl (fun ls hl => ?_)
  exact wmJ_keepsChangesOf_L5 hA S hN hr hlk out σ x1 x3 999 (x2 + (1 : Int32)) _ (lv_sub hl [1, 2, 4, 0] rfl) hw hf
set_option maxHeartbeats 4000000 in
set_option maxRecDepth 100000 in
theorem kJ_keepsChangesOf (l : Launch) (D : va_G) (ca : Nat → ClassId) (ad : Nat → Nat) (sz : Nat) (σ : JS) (x1 : Int32) (x2 : Int32) (x3 : Int32) (out : Int32) (hf : mJ_keepsChangesOf σ x1 x2 x3 = some out) : Met l yJ_keepsChangesOf wsJ_keepsChangesOf rmJ_keepsChangesOf (jPre D (xT ca) (xC ca ad σ) (xN (va_A (xC ca ad σ) sz)) sz [.ref (ad 1), .int x1, .int x2, .int x3]) (jSi out) 0 0 (fun _ => False) := by
  refine Met.ofW (cc := cJ_keepsChangesOf) (maxL := 5) (ret := some .boolean) (by decide) rfl ?_
  intro p e s m args below meth c s₁ B hml hv
  obtain ⟨rfl, hsz, hP, hK, hD0, hN⟩ := hv
  subst hsz
  have hl := lv_entry [.ref (ad 1), .int x1, .int x2, .int x3] (n := 5) (Nat.le_of_ble_eq_true rfl)
  rw [lg_entry_eq]
  generalize (lg_sl [.ref (ad 1), .int x1, .int x2, .int x3] ++ List.replicate (5 - (lg_sl [.ref (ad 1), .int x1, .int x2, .int x3]).length) Slot.unset).toArray = ls at hl ⊢
  exact bJ_keepsChangesOf (fun q h => Or.inr h) ⟨B.exec, B.bytes, hml, findClass_of_methodNamed B.named, fun w h => atoms_spec (ws := wsJ_keepsChangesOf) B.pre w (List.mem_cons_of_mem _ h)⟩ hN B.returns B.notSynchronized out σ x1 x2 x3 ls hl ⟨hP, hD0.self, va_S.rf, hK⟩ hf

def rmH_canApply : Room := { frames := 3, cells := 0, slots := 0, locals := 66 }
def mH_canApply (σ : JS) (x1 : Int32) (x2 : Int32) : Option (Int32) :=
  jrd σ 27 3 x1 fun v1 =>
  if v1 = (-1 : Int32) then
  (some (0 : Int32))
  else
  (if x2 ≤ v1 then
  (some (0 : Int32))
  else
  (jrd σ 28 3 x1 fun v4 =>
  if v4 ≤ x2 then
  (some (0 : Int32))
  else
  (jbn (mJ_isCycleOn σ x1) fun q7 =>
  if q7 = 0 then
  (jbn (mJ_isBoundary σ x1 x2) fun q9 =>
  if q9 = 0 then
  (some (0 : Int32))
  else
  (jbn (mJ_keepsChangesOf σ x1 v1 x2) fun q11 =>
  if q11 = 0 then
  (some (0 : Int32))
  else
  (some (1 : Int32))))
  else
  (some (0 : Int32)))))
set_option maxHeartbeats 4000000 in
set_option maxRecDepth 100000 in
theorem bH_canApply {p : Program} {l : Launch} {e : Env} {s : State} {m : MethodId} {args : Array Value} {below : List Frame} {meth : Method} {c : Code} {D : va_G} {ca : Nat → ClassId} {ad : Nat → Nat} {A : Nat → Prop} (hA : ∀ q, s.heap.size ≤ q → A q) (S : CallFix p m c cH_canApply 4 s args jall RH) (hN : xN A s) (hr : meth.sig.returnType = some .boolean) (hlk : meth.locks = false) (out : Int32) (σ : JS) (x1 : Int32) (x2 : Int32) (ls : Array Slot) (hl : lv_has ls 4 [(0, .ref (ad 0)), (1, .int x1), (2, .int x2)]) (hw : jH D (xT ca) (xC ca ad σ) A s.heap s.heap [] s) (hf : mH_canApply σ x1 x2 = some out) : W p l e (headSpec wsH_canApply rmH_canApply).room s m args below meth c s.heap [] 0 0 (MQ below (jSi out) args s 0 0 (fun _ => False)) (F0 m 0 ls []) := by
  have hx := S.1
  have hb := S.2.1
  unfold mH_canApply at hf
  refine lv_aload_n (pc := 0) hx hb dH_canApply_0 rfl (lv_at hl 0 rfl) ?_
  refine j_get (pc := 1) (v := .ref (ad 27)) S hw inH 0 0 6 xg_0 rfl (by decide) k_168 rfl dH_canApply_1 ?_
  refine lv_iload_n (pc := 4) hx hb dH_canApply_4 rfl (lv_at hl 1 rfl) ?_
  have hg := jrd_e hf; clear hf; obtain ⟨h2, v1, e3, hf⟩ := hg
  refine j_iald (pc := 5) S hw 27 21 xg_27 xt_27 h2 e3 dH_canApply_5 ?_
  refine lv_istore_n (pc := 6) (lv' := [(3, .int v1), (0, .ref (ad 0)), (1, .int x1), (2, .int x2)]) hx hb dH_canApply_6 rfl hl (by decide) rfl (fun ls hl => ?_)
  refine lv_iload_n (pc := 7) hx hb dH_canApply_7 rfl (lv_at hl 0 rfl) ?_
  refine lv_iconst (pc := 8) (v := (-1 : Int32)) hx hb dH_canApply_8 (by decide) ?_
  refine lv_icmp_eq (pc := 9) (tgt := 67) hx hb dH_canApply_9 (by decide) (fun hc => ?_) (fun hc => ?_)
  · replace hf := jit hf hc
    refine lv_iconst (pc := 67) (v := (0 : Int32)) hx hb dH_canApply_67 (by decide) ?_
    obtain rfl := jsm hf
    exact j_zpr (pc := 68) S hr hlk (Or.inl rfl) dH_canApply_68
  · replace hf := jif hf hc
    refine lv_iload_n (pc := 12) hx hb dH_canApply_12 rfl (lv_at hl 3 rfl) ?_
    refine lv_iload_n (pc := 13) hx hb dH_canApply_13 rfl (lv_at hl 0 rfl) ?_
    refine lv_icmp_le (pc := 14) (tgt := 67) hx hb dH_canApply_14 (by decide) (fun hc => ?_) (fun hc => ?_)
    · replace hf := jit hf hc
      refine lv_iconst (pc := 67) (v := (0 : Int32)) hx hb dH_canApply_67 (by decide) ?_
      obtain rfl := jsm hf
      exact j_zpr (pc := 68) S hr hlk (Or.inl rfl) dH_canApply_68
    · replace hf := jif hf hc
      refine lv_iload_n (pc := 17) hx hb dH_canApply_17 rfl (lv_at hl 3 rfl) ?_
      refine lv_aload_n (pc := 18) hx hb dH_canApply_18 rfl (lv_at hl 1 rfl) ?_
      refine j_get (pc := 19) (v := .ref (ad 28)) S hw inH 0 0 7 xg_0 rfl (by decide) k_169 rfl dH_canApply_19 ?_
      refine lv_iload_n (pc := 22) hx hb dH_canApply_22 rfl (lv_at hl 2 rfl) ?_
      have hg := jrd_e hf; clear hf; obtain ⟨h5, v4, e6, hf⟩ := hg
      refine j_iald (pc := 23) S hw 28 22 xg_28 xt_28 h5 e6 dH_canApply_23 ?_
      refine lv_icmp_ge (pc := 24) (tgt := 67) hx hb dH_canApply_24 (by decide) (fun hc => ?_) (fun hc => ?_)
      · replace hf := jit hf hc
        refine lv_iconst (pc := 67) (v := (0 : Int32)) hx hb dH_canApply_67 (by decide) ?_
        obtain rfl := jsm hf
        exact j_zpr (pc := 68) S hr hlk (Or.inl rfl) dH_canApply_68
      · replace hf := jif hf hc
        refine lv_aload_n (pc := 27) hx hb dH_canApply_27 rfl (lv_at hl 1 rfl) ?_
        refine j_get (pc := 28) (v := .ref (ad 1)) S hw inH 0 0 0 xg_0 rfl (by decide) k_162 rfl dH_canApply_28 ?_
        refine lv_iload_n (pc := 31) hx hb dH_canApply_31 rfl (lv_at hl 2 rfl) ?_
        have hg := jbn_e hf; clear hf; obtain ⟨q7, h8, hf⟩ := hg
        refine j_cpi (pc := 32) (v := q7) (va_runV (As := [.int x1]) (rest := []) S (kJ_isCycleOn l D ca ad _ σ x1 q7 h8) (cwV 1 S.2.2.2.2 (jgV k_444 k_445 k_446 k_2 k_447) rfl rfl rfl (by decide +kernel) ⟨Nat.le_of_ble_eq_true rfl, Nat.le_of_ble_eq_true rfl⟩) (j_preV (As := [.int x1]) hw xN_b (xN_to hN hw hA) rfl xg_1) rfl rfl hl.1 rfl (lv_room (Nat.le_of_ble_eq_true rfl)) dH_canApply_32 ⟨Nat.le_of_ble_eq_true rfl, Nat.le_of_ble_eq_true rfl⟩) ?_
        refine lv_if_ne (pc := 35) (tgt := 67) hx hb dH_canApply_35 (by decide) (fun hc => ?_) (fun hc => ?_)
        · replace hf := jif hf hc
          refine lv_iconst (pc := 67) (v := (0 : Int32)) hx hb dH_canApply_67 (by decide) ?_
          obtain rfl := jsm hf
          exact j_zpr (pc := 68) S hr hlk (Or.inl rfl) dH_canApply_68
        · replace hf := jit hf hc
          refine lv_aload_n (pc := 38) hx hb dH_canApply_38 rfl (lv_at hl 1 rfl) ?_
          refine j_get (pc := 39) (v := .ref (ad 1)) S hw inH 0 0 0 xg_0 rfl (by decide) k_162 rfl dH_canApply_39 ?_
          refine lv_iload_n (pc := 42) hx hb dH_canApply_42 rfl (lv_at hl 2 rfl) ?_
          refine lv_iload_n (pc := 43) hx hb dH_canApply_43 rfl (lv_at hl 3 rfl) ?_
          have hg := jbn_e hf; clear hf; obtain ⟨q9, h10, hf⟩ := hg
          refine j_cpi (pc := 44) (v := q9) (va_runV (As := [.int x1, .int x2]) (rest := []) S (kJ_isBoundary l D ca ad _ σ x1 x2 q9 h10) (cwV 2 S.2.2.2.2 (jgV k_231 k_232 k_233 k_2 k_234) rfl rfl rfl (by decide +kernel) ⟨Nat.le_of_ble_eq_true rfl, Nat.le_of_ble_eq_true rfl⟩) (j_preV (As := [.int x1, .int x2]) hw xN_b (xN_to hN hw hA) rfl xg_1) rfl rfl hl.1 rfl (lv_room (Nat.le_of_ble_eq_true rfl)) dH_canApply_44 ⟨Nat.le_of_ble_eq_true rfl, Nat.le_of_ble_eq_true rfl⟩) ?_
          refine lv_if_eq (pc := 47) (tgt := 67) hx hb dH_canApply_47 (by decide) (fun hc => ?_) (fun hc => ?_)
          · replace hf := jit hf hc
            refine lv_iconst (pc := 67) (v := (0 : Int32)) hx hb dH_canApply_67 (by decide) ?_
            obtain rfl := jsm hf
            exact j_zpr (pc := 68) S hr hlk (Or.inl rfl) dH_canApply_68
          · replace hf := jif hf hc
            refine lv_aload_n (pc := 50) hx hb dH_canApply_50 rfl (lv_at hl 1 rfl) ?_
            refine j_get (pc := 51) (v := .ref (ad 1)) S hw inH 0 0 0 xg_0 rfl (by decide) k_162 rfl dH_canApply_51 ?_
            refine lv_iload_n (pc := 54) hx hb dH_canApply_54 rfl (lv_at hl 2 rfl) ?_
            refine lv_iload_n (pc := 55) hx hb dH_canApply_55 rfl (lv_at hl 0 rfl) ?_
            refine lv_iload_n (pc := 56) hx hb dH_canApply_56 rfl (lv_at hl 3 rfl) ?_
            have hg := jbn_e hf; clear hf; obtain ⟨q11, h12, hf⟩ := hg
            refine j_cpi (pc := 57) (v := q11) (va_runV (As := [.int x1, .int v1, .int x2]) (rest := []) S (kJ_keepsChangesOf l D ca ad _ σ x1 v1 x2 q11 h12) (cwV 3 S.2.2.2.2 (jgV k_486 k_487 k_488 k_2 k_489) rfl rfl rfl (by decide +kernel) ⟨Nat.le_of_ble_eq_true rfl, Nat.le_of_ble_eq_true rfl⟩) (j_preV (As := [.int x1, .int v1, .int x2]) hw xN_b (xN_to hN hw hA) rfl xg_1) rfl rfl hl.1 rfl (lv_room (Nat.le_of_ble_eq_true rfl)) dH_canApply_57 ⟨Nat.le_of_ble_eq_true rfl, Nat.le_of_ble_eq_true rfl⟩) ?_
            refine lv_if_eq (pc := 60) (tgt := 67) hx hb dH_canApply_60 (by decide) (fun hc => ?_) (fun hc => ?_)
            · replace hf := jit hf hc
              refine lv_iconst (pc := 67) (v := (0 : Int32)) hx hb dH_canApply_67 (by decide) ?_
              obtain rfl := jsm hf
              exact j_zpr (pc := 68) S hr hlk (Or.inl rfl) dH_canApply_68
            · replace hf := jif hf hc
              refine lv_iconst (pc := 63) (v := (1 : Int32)) hx hb dH_canApply_63 (by decide) ?_
              refine lv_goto (pc := 64) (tgt := 68) hx hb dH_canApply_64 (by decide) ?_
              obtain rfl := jsm hf
              exact j_zpr (pc := 68) S hr hlk (Or.inr rfl) dH_canApply_68
set_option maxHeartbeats 4000000 in
set_option maxRecDepth 100000 in
theorem kH_canApply (l : Launch) (D : va_G) (ca : Nat → ClassId) (ad : Nat → Nat) (sz : Nat) (σ : JS) (x1 : Int32) (x2 : Int32) (out : Int32) (hf : mH_canApply σ x1 x2 = some out) : Met l yH_canApply wsH_canApply rmH_canApply (jPre D (xT ca) (xC ca ad σ) (xN (va_A (xC ca ad σ) sz)) sz [.ref (ad 0), .int x1, .int x2]) (jSi out) 0 0 (fun _ => False) := by
  refine Met.ofW (cc := cH_canApply) (maxL := 4) (ret := some .boolean) (by decide) rfl ?_
  intro p e s m args below meth c s₁ B hml hv
  obtain ⟨rfl, hsz, hP, hK, hD0, hN⟩ := hv
  subst hsz
  have hl := lv_entry [.ref (ad 0), .int x1, .int x2] (n := 4) (Nat.le_of_ble_eq_true rfl)
  rw [lg_entry_eq]
  generalize (lg_sl [.ref (ad 0), .int x1, .int x2] ++ List.replicate (4 - (lg_sl [.ref (ad 0), .int x1, .int x2]).length) Slot.unset).toArray = ls at hl ⊢
  exact bH_canApply (fun q h => Or.inr h) ⟨B.exec, B.bytes, hml, findClass_of_methodNamed B.named, fun w h => atoms_spec (ws := wsH_canApply) B.pre w (List.mem_cons_of_mem _ h)⟩ hN B.returns B.notSynchronized out σ x1 x2 ls hl ⟨hP, hD0.self, va_S.rf, hK⟩ hf

def rmH_wantWhatIs : Room := { frames := 1, cells := 0, slots := 0, locals := 21 }
def mH_wantWhatIs (σ : JS) (x1 : Int32) : Option (JS) :=
  jbn (mH_cellOf σ x1 (0 : Int32)) fun q1 =>
  jcp σ 15 24 29 8 q1 (0 : Int32) (8 : Int32) fun σ3 =>
  some σ3
set_option maxHeartbeats 4000000 in
set_option maxRecDepth 100000 in
theorem bH_wantWhatIs {p : Program} {l : Launch} {e : Env} {s : State} {m : MethodId} {args : Array Value} {below : List Frame} {meth : Method} {c : Code} {D : va_G} {ca : Nat → ClassId} {ad : Nat → Nat} {A : Nat → Prop} (hA : ∀ q, s.heap.size ≤ q → A q) (S : CallFix p m c cH_wantWhatIs 2 s args jall RH) (hN : xN A s) (hr : meth.sig.returnType = none) (hlk : meth.locks = false) (out : JS) (σ : JS) (x1 : Int32) (ls : Array Slot) (hl : lv_has ls 2 [(0, .ref (ad 0)), (1, .int x1)]) (hw : jH D (xT ca) (xC ca ad σ) A s.heap s.heap [] s) (hf : mH_wantWhatIs σ x1 = some out) : W p l e (headSpec wsH_wantWhatIs rmH_wantWhatIs).room s m args below meth c s.heap [] 0 0 (MQ below (jQv D (xT ca) (xC ca ad) A out) args s 0 0 A) (F0 m 0 ls []) := by
  have hx := S.1
  have hb := S.2.1
  unfold mH_wantWhatIs at hf
  refine lv_aload_n (pc := 0) hx hb dH_wantWhatIs_0 rfl (lv_at hl 0 rfl) ?_
  refine j_get (pc := 1) (v := .ref (ad 2)) S hw inH 0 0 1 xg_0 rfl (by decide) k_163 rfl dH_wantWhatIs_1 ?_
  refine j_get (pc := 4) (v := .ref (ad 15)) S hw inS 2 2 0 xg_2 rfl (by decide) k_84 rfl dH_wantWhatIs_4 ?_
  refine lv_iload_n (pc := 7) hx hb dH_wantWhatIs_7 rfl (lv_at hl 1 rfl) ?_
  refine lv_iconst (pc := 8) (v := (0 : Int32)) hx hb dH_wantWhatIs_8 (by decide) ?_
  have hg := jbn_e hf; clear hf; obtain ⟨q1, h2, hf⟩ := hg
  refine j_cpi (pc := 9) (v := q1) (va_runS (As := [.int x1, .int (0 : Int32)]) (rest := [.ref (ad 15)]) S (kH_cellOf l D ca ad _ σ x1 (0 : Int32) q1 h2) (cwS 2 S.2.2.2.2 (jgS k_211 k_212 k_1 k_213) rfl rfl rfl (by decide +kernel) ⟨Nat.le_of_ble_eq_true rfl, Nat.le_of_ble_eq_true rfl⟩) (j_preS hw xN_b (xN_to hN hw hA)) rfl rfl hl.1 rfl (lv_room (Nat.le_of_ble_eq_true rfl)) dH_wantWhatIs_9 ⟨Nat.le_of_ble_eq_true rfl, Nat.le_of_ble_eq_true rfl⟩) ?_
  refine lv_aload_n (pc := 12) hx hb dH_wantWhatIs_12 rfl (lv_at hl 0 rfl) ?_
  refine j_get (pc := 13) (v := .ref (ad 29)) S hw inH 0 0 8 xg_0 rfl (by decide) k_170 rfl dH_wantWhatIs_13 ?_
  refine lv_iconst (pc := 16) (v := (0 : Int32)) hx hb dH_wantWhatIs_16 (by decide) ?_
  refine lv_bipush (pc := 17) (v := (8 : Int32)) hx hb dH_wantWhatIs_17 (by decide) ?_
  have hg := jcp_e hf; clear hf; obtain ⟨h5, h6, h7, h8, h9, σ3, e4, hf⟩ := hg
  refine j_copyi (pc := 19) (rest := []) (ws' := xC ca ad σ3) S hw hl.1 k_462 k_416 k_415 k_14 15 29 9 23 xg_15 xg_29 xt_15 xt_29 h5 h6 h7 h8 h9 (by rw [e4]; exact xa_29) (Nat.le_of_ble_eq_true rfl) (Nat.le_of_ble_eq_true rfl) dH_wantWhatIs_19 (fun H locs hw => ?_)
  obtain rfl := jsm hf
  exact j_vret (pc := 22) S hw hr hlk dH_wantWhatIs_22
set_option maxHeartbeats 4000000 in
set_option maxRecDepth 100000 in
theorem kH_wantWhatIs (l : Launch) (D : va_G) (ca : Nat → ClassId) (ad : Nat → Nat) (sz : Nat) (σ : JS) (x1 : Int32) (out : JS) (hf : mH_wantWhatIs σ x1 = some out) : Met l yH_wantWhatIs wsH_wantWhatIs rmH_wantWhatIs (jPre D (xT ca) (xC ca ad σ) (xN (va_A (xC ca ad σ) sz)) sz [.ref (ad 0), .int x1]) (jQv D (xT ca) (xC ca ad) (va_A (xC ca ad σ) sz) out) 0 0 (va_A (xC ca ad σ) sz) := by
  refine Met.ofW (cc := cH_wantWhatIs) (maxL := 2) (ret := none) (by decide) rfl ?_
  intro p e s m args below meth c s₁ B hml hv
  obtain ⟨rfl, hsz, hP, hK, hD0, hN⟩ := hv
  subst hsz
  have hl := lv_entry [.ref (ad 0), .int x1] (n := 2) (Nat.le_of_ble_eq_true rfl)
  rw [lg_entry_eq]
  generalize (lg_sl [.ref (ad 0), .int x1] ++ List.replicate (2 - (lg_sl [.ref (ad 0), .int x1]).length) Slot.unset).toArray = ls at hl ⊢
  exact bH_wantWhatIs (fun q h => Or.inr h) ⟨B.exec, B.bytes, hml, findClass_of_methodNamed B.named, fun w h => atoms_spec (ws := wsH_wantWhatIs) B.pre w (List.mem_cons_of_mem _ h)⟩ hN B.returns B.notSynchronized out σ x1 ls hl ⟨hP, hD0.self, va_S.rf, hK⟩ hf

def rmH_recordOf : Room := { frames := 0, cells := 0, slots := 0, locals := 0 }
def mH_recordOf (σ : JS) (x0 : Int32) : Option (Int32) :=
  some (x0 - x0 / (8 : Int32) * (8 : Int32))
set_option maxHeartbeats 4000000 in
set_option maxRecDepth 100000 in
theorem bH_recordOf {p : Program} {l : Launch} {e : Env} {s : State} {m : MethodId} {args : Array Value} {below : List Frame} {meth : Method} {c : Code} {D : va_G} {ca : Nat → ClassId} {ad : Nat → Nat} {A : Nat → Prop} (hA : ∀ q, s.heap.size ≤ q → A q) (S : CallFix p m c cH_recordOf 1 s args jall RH) (hN : xN A s) (hr : meth.sig.returnType = some .int) (hlk : meth.locks = false) (out : Int32) (σ : JS) (x0 : Int32) (ls : Array Slot) (hl : lv_has ls 1 [(0, .int x0)]) (hw : jH D (xT ca) (xC ca ad σ) A s.heap s.heap [] s) (hf : mH_recordOf σ x0 = some out) : W p l e (headSpec wsH_recordOf rmH_recordOf).room s m args below meth c s.heap [] 0 0 (MQ below (jSi out) args s 0 0 (fun _ => False)) (F0 m 0 ls []) := by
  have hx := S.1
  have hb := S.2.1
  unfold mH_recordOf at hf
  refine lv_iload_n (pc := 0) hx hb dH_recordOf_0 rfl (lv_at hl 0 rfl) ?_
  refine lv_bipush (pc := 1) (v := (8 : Int32)) hx hb dH_recordOf_1 (by decide) ?_
  refine lv_irem (pc := 3) hx hb dH_recordOf_3 (by decide) ?_
  obtain rfl := jsm hf
  exact j_ipr (pc := 4) S hr hlk dH_recordOf_4
set_option maxHeartbeats 4000000 in
set_option maxRecDepth 100000 in
theorem kH_recordOf (l : Launch) (D : va_G) (ca : Nat → ClassId) (ad : Nat → Nat) (sz : Nat) (σ : JS) (x0 : Int32) (out : Int32) (hf : mH_recordOf σ x0 = some out) : Met l yH_recordOf wsH_recordOf rmH_recordOf (jPre D (xT ca) (xC ca ad σ) (xN (va_A (xC ca ad σ) sz)) sz [.int x0]) (jSi out) 0 0 (fun _ => False) := by
  refine Met.ofW (cc := cH_recordOf) (maxL := 1) (ret := some .int) (by decide) rfl ?_
  intro p e s m args below meth c s₁ B hml hv
  obtain ⟨rfl, hsz, hP, hK, hD0, hN⟩ := hv
  subst hsz
  have hl := lv_entry [.int x0] (n := 1) (Nat.le_of_ble_eq_true rfl)
  rw [lg_entry_eq]
  generalize (lg_sl [.int x0] ++ List.replicate (1 - (lg_sl [.int x0]).length) Slot.unset).toArray = ls at hl ⊢
  exact bH_recordOf (fun q h => Or.inr h) ⟨B.exec, B.bytes, hml, findClass_of_methodNamed B.named, fun w h => atoms_spec (ws := wsH_recordOf) B.pre w (List.mem_cons_of_mem _ h)⟩ hN B.returns B.notSynchronized out σ x0 ls hl ⟨hP, hD0.self, va_S.rf, hK⟩ hf

def rmH_numberToRemoveFrom : Room := { frames := 0, cells := 0, slots := 0, locals := 0 }
def mH_numberToRemoveFrom (σ : JS) (x1 : Int32) : Option (Int32) :=
  jrd σ 27 3 x1 fun v1 =>
  if v1 = (-1 : Int32) then
  (some (σ 100 0))
  else
  (jrd σ 27 3 x1 fun v4 =>
  some v4)
set_option maxHeartbeats 4000000 in
set_option maxRecDepth 100000 in
theorem bH_numberToRemoveFrom {p : Program} {l : Launch} {e : Env} {s : State} {m : MethodId} {args : Array Value} {below : List Frame} {meth : Method} {c : Code} {D : va_G} {ca : Nat → ClassId} {ad : Nat → Nat} {A : Nat → Prop} (hA : ∀ q, s.heap.size ≤ q → A q) (S : CallFix p m c cH_numberToRemoveFrom 2 s args jall RH) (hN : xN A s) (hr : meth.sig.returnType = some .int) (hlk : meth.locks = false) (out : Int32) (σ : JS) (x1 : Int32) (ls : Array Slot) (hl : lv_has ls 2 [(0, .ref (ad 0)), (1, .int x1)]) (hw : jH D (xT ca) (xC ca ad σ) A s.heap s.heap [] s) (hf : mH_numberToRemoveFrom σ x1 = some out) : W p l e (headSpec wsH_numberToRemoveFrom rmH_numberToRemoveFrom).room s m args below meth c s.heap [] 0 0 (MQ below (jSi out) args s 0 0 (fun _ => False)) (F0 m 0 ls []) := by
  have hx := S.1
  have hb := S.2.1
  unfold mH_numberToRemoveFrom at hf
  refine lv_aload_n (pc := 0) hx hb dH_numberToRemoveFrom_0 rfl (lv_at hl 0 rfl) ?_
  refine j_get (pc := 1) (v := .ref (ad 27)) S hw inH 0 0 6 xg_0 rfl (by decide) k_168 rfl dH_numberToRemoveFrom_1 ?_
  refine lv_iload_n (pc := 4) hx hb dH_numberToRemoveFrom_4 rfl (lv_at hl 1 rfl) ?_
  have hg := jrd_e hf; clear hf; obtain ⟨h2, v1, e3, hf⟩ := hg
  refine j_iald (pc := 5) S hw 27 21 xg_27 xt_27 h2 e3 dH_numberToRemoveFrom_5 ?_
  refine lv_iconst (pc := 6) (v := (-1 : Int32)) hx hb dH_numberToRemoveFrom_6 (by decide) ?_
  refine lv_icmp_ne (pc := 7) (tgt := 20) hx hb dH_numberToRemoveFrom_7 (by decide) (fun hc => ?_) (fun hc => ?_)
  · replace hf := jif hf hc
    refine lv_aload_n (pc := 20) hx hb dH_numberToRemoveFrom_20 rfl (lv_at hl 0 rfl) ?_
    refine j_get (pc := 21) (v := .ref (ad 27)) S hw inH 0 0 6 xg_0 rfl (by decide) k_168 rfl dH_numberToRemoveFrom_21 ?_
    refine lv_iload_n (pc := 24) hx hb dH_numberToRemoveFrom_24 rfl (lv_at hl 1 rfl) ?_
    have hg := jrd_e hf; clear hf; obtain ⟨h5, v4, e6, hf⟩ := hg
    refine j_iald (pc := 25) S hw 27 21 xg_27 xt_27 h5 e6 dH_numberToRemoveFrom_25 ?_
    obtain rfl := jsm hf
    exact j_ipr (pc := 26) S hr hlk dH_numberToRemoveFrom_26
  · replace hf := jit hf hc
    refine lv_aload_n (pc := 10) hx hb dH_numberToRemoveFrom_10 rfl (lv_at hl 0 rfl) ?_
    refine j_get (pc := 11) (v := .ref (ad 1)) S hw inH 0 0 0 xg_0 rfl (by decide) k_162 rfl dH_numberToRemoveFrom_11 ?_
    refine j_get (pc := 14) (v := .int (σ 100 0)) S hw inJ 1 1 9 xg_1 rfl (by decide) k_50 rfl dH_numberToRemoveFrom_14 ?_
    refine lv_goto (pc := 17) (tgt := 26) hx hb dH_numberToRemoveFrom_17 (by decide) ?_
    obtain rfl := jsm hf
    exact j_ipr (pc := 26) S hr hlk dH_numberToRemoveFrom_26
set_option maxHeartbeats 4000000 in
set_option maxRecDepth 100000 in
theorem kH_numberToRemoveFrom (l : Launch) (D : va_G) (ca : Nat → ClassId) (ad : Nat → Nat) (sz : Nat) (σ : JS) (x1 : Int32) (out : Int32) (hf : mH_numberToRemoveFrom σ x1 = some out) : Met l yH_numberToRemoveFrom wsH_numberToRemoveFrom rmH_numberToRemoveFrom (jPre D (xT ca) (xC ca ad σ) (xN (va_A (xC ca ad σ) sz)) sz [.ref (ad 0), .int x1]) (jSi out) 0 0 (fun _ => False) := by
  refine Met.ofW (cc := cH_numberToRemoveFrom) (maxL := 2) (ret := some .int) (by decide) rfl ?_
  intro p e s m args below meth c s₁ B hml hv
  obtain ⟨rfl, hsz, hP, hK, hD0, hN⟩ := hv
  subst hsz
  have hl := lv_entry [.ref (ad 0), .int x1] (n := 2) (Nat.le_of_ble_eq_true rfl)
  rw [lg_entry_eq]
  generalize (lg_sl [.ref (ad 0), .int x1] ++ List.replicate (2 - (lg_sl [.ref (ad 0), .int x1]).length) Slot.unset).toArray = ls at hl ⊢
  exact bH_numberToRemoveFrom (fun q h => Or.inr h) ⟨B.exec, B.bytes, hml, findClass_of_methodNamed B.named, fun w h => atoms_spec (ws := wsH_numberToRemoveFrom) B.pre w (List.mem_cons_of_mem _ h)⟩ hN B.returns B.notSynchronized out σ x1 ls hl ⟨hP, hD0.self, va_S.rf, hK⟩ hf

def rmH_canRemove : Room := { frames := 3, cells := 0, slots := 0, locals := 66 }
def mH_canRemove (σ : JS) (x1 : Int32) (x2 : Int32) : Option (Int32) :=
  jbn (mH_numberToRemoveFrom σ x1) fun q1 =>
  if q1 ≤ x2 then
  (some (0 : Int32))
  else
  (jbn (mJ_isCycleOn σ x1) fun q3 =>
  if q3 = 0 then
  (jbn (mJ_isBoundary σ x1 x2) fun q5 =>
  if q5 = 0 then
  (some (0 : Int32))
  else
  (jbn (mJ_keepsChangesOf σ x1 x2 q1) fun q7 =>
  if q7 = 0 then
  (some (0 : Int32))
  else
  (some (1 : Int32))))
  else
  (some (0 : Int32)))
set_option maxHeartbeats 4000000 in
set_option maxRecDepth 100000 in
theorem bH_canRemove {p : Program} {l : Launch} {e : Env} {s : State} {m : MethodId} {args : Array Value} {below : List Frame} {meth : Method} {c : Code} {D : va_G} {ca : Nat → ClassId} {ad : Nat → Nat} {A : Nat → Prop} (hA : ∀ q, s.heap.size ≤ q → A q) (S : CallFix p m c cH_canRemove 4 s args jall RH) (hN : xN A s) (hr : meth.sig.returnType = some .boolean) (hlk : meth.locks = false) (out : Int32) (σ : JS) (x1 : Int32) (x2 : Int32) (ls : Array Slot) (hl : lv_has ls 4 [(0, .ref (ad 0)), (1, .int x1), (2, .int x2)]) (hw : jH D (xT ca) (xC ca ad σ) A s.heap s.heap [] s) (hf : mH_canRemove σ x1 x2 = some out) : W p l e (headSpec wsH_canRemove rmH_canRemove).room s m args below meth c s.heap [] 0 0 (MQ below (jSi out) args s 0 0 (fun _ => False)) (F0 m 0 ls []) := by
  have hx := S.1
  have hb := S.2.1
  unfold mH_canRemove at hf
  refine lv_aload_n (pc := 0) hx hb dH_canRemove_0 rfl (lv_at hl 0 rfl) ?_
  refine lv_iload_n (pc := 1) hx hb dH_canRemove_1 rfl (lv_at hl 1 rfl) ?_
  have hg := jbn_e hf; clear hf; obtain ⟨q1, h2, hf⟩ := hg
  refine j_cpi (pc := 2) (v := q1) (va_runV (As := [.int x1]) (rest := []) S (kH_numberToRemoveFrom l D ca ad _ σ x1 q1 h2) (cwV 1 S.2.2.2.2 (jgV k_511 k_513 ks_7 k_1 k_514) rfl rfl rfl (by decide +kernel) ⟨Nat.le_of_ble_eq_true rfl, Nat.le_of_ble_eq_true rfl⟩) (j_preV (As := [.int x1]) hw xN_b (xN_to hN hw hA) rfl xg_0) rfl rfl hl.1 rfl (lv_room (Nat.le_of_ble_eq_true rfl)) dH_canRemove_2 ⟨Nat.le_of_ble_eq_true rfl, Nat.le_of_ble_eq_true rfl⟩) ?_
  refine lv_istore_n (pc := 5) (lv' := [(3, .int q1), (0, .ref (ad 0)), (1, .int x1), (2, .int x2)]) hx hb dH_canRemove_5 rfl hl (by decide) rfl (fun ls hl => ?_)
  refine lv_iload_n (pc := 6) hx hb dH_canRemove_6 rfl (lv_at hl 3 rfl) ?_
  refine lv_iload_n (pc := 7) hx hb dH_canRemove_7 rfl (lv_at hl 0 rfl) ?_
  refine lv_icmp_ge (pc := 8) (tgt := 51) hx hb dH_canRemove_8 (by decide) (fun hc => ?_) (fun hc => ?_)
  · replace hf := jit hf hc
    refine lv_iconst (pc := 51) (v := (0 : Int32)) hx hb dH_canRemove_51 (by decide) ?_
    obtain rfl := jsm hf
    exact j_zpr (pc := 52) S hr hlk (Or.inl rfl) dH_canRemove_52
  · replace hf := jif hf hc
    refine lv_aload_n (pc := 11) hx hb dH_canRemove_11 rfl (lv_at hl 1 rfl) ?_
    refine j_get (pc := 12) (v := .ref (ad 1)) S hw inH 0 0 0 xg_0 rfl (by decide) k_162 rfl dH_canRemove_12 ?_
    refine lv_iload_n (pc := 15) hx hb dH_canRemove_15 rfl (lv_at hl 2 rfl) ?_
    have hg := jbn_e hf; clear hf; obtain ⟨q3, h4, hf⟩ := hg
    refine j_cpi (pc := 16) (v := q3) (va_runV (As := [.int x1]) (rest := []) S (kJ_isCycleOn l D ca ad _ σ x1 q3 h4) (cwV 1 S.2.2.2.2 (jgV k_444 k_445 k_446 k_2 k_447) rfl rfl rfl (by decide +kernel) ⟨Nat.le_of_ble_eq_true rfl, Nat.le_of_ble_eq_true rfl⟩) (j_preV (As := [.int x1]) hw xN_b (xN_to hN hw hA) rfl xg_1) rfl rfl hl.1 rfl (lv_room (Nat.le_of_ble_eq_true rfl)) dH_canRemove_16 ⟨Nat.le_of_ble_eq_true rfl, Nat.le_of_ble_eq_true rfl⟩) ?_
    refine lv_if_ne (pc := 19) (tgt := 51) hx hb dH_canRemove_19 (by decide) (fun hc => ?_) (fun hc => ?_)
    · replace hf := jif hf hc
      refine lv_iconst (pc := 51) (v := (0 : Int32)) hx hb dH_canRemove_51 (by decide) ?_
      obtain rfl := jsm hf
      exact j_zpr (pc := 52) S hr hlk (Or.inl rfl) dH_canRemove_52
    · replace hf := jit hf hc
      refine lv_aload_n (pc := 22) hx hb dH_canRemove_22 rfl (lv_at hl 1 rfl) ?_
      refine j_get (pc := 23) (v := .ref (ad 1)) S hw inH 0 0 0 xg_0 rfl (by decide) k_162 rfl dH_canRemove_23 ?_
      refine lv_iload_n (pc := 26) hx hb dH_canRemove_26 rfl (lv_at hl 2 rfl) ?_
      refine lv_iload_n (pc := 27) hx hb dH_canRemove_27 rfl (lv_at hl 3 rfl) ?_
      have hg := jbn_e hf; clear hf; obtain ⟨q5, h6, hf⟩ := hg
      refine j_cpi (pc := 28) (v := q5) (va_runV (As := [.int x1, .int x2]) (rest := []) S (kJ_isBoundary l D ca ad _ σ x1 x2 q5 h6) (cwV 2 S.2.2.2.2 (jgV k_231 k_232 k_233 k_2 k_234) rfl rfl rfl (by decide +kernel) ⟨Nat.le_of_ble_eq_true rfl, Nat.le_of_ble_eq_true rfl⟩) (j_preV (As := [.int x1, .int x2]) hw xN_b (xN_to hN hw hA) rfl xg_1) rfl rfl hl.1 rfl (lv_room (Nat.le_of_ble_eq_true rfl)) dH_canRemove_28 ⟨Nat.le_of_ble_eq_true rfl, Nat.le_of_ble_eq_true rfl⟩) ?_
      refine lv_if_eq (pc := 31) (tgt := 51) hx hb dH_canRemove_31 (by decide) (fun hc => ?_) (fun hc => ?_)
      · replace hf := jit hf hc
        refine lv_iconst (pc := 51) (v := (0 : Int32)) hx hb dH_canRemove_51 (by decide) ?_
        obtain rfl := jsm hf
        exact j_zpr (pc := 52) S hr hlk (Or.inl rfl) dH_canRemove_52
      · replace hf := jif hf hc
        refine lv_aload_n (pc := 34) hx hb dH_canRemove_34 rfl (lv_at hl 1 rfl) ?_
        refine j_get (pc := 35) (v := .ref (ad 1)) S hw inH 0 0 0 xg_0 rfl (by decide) k_162 rfl dH_canRemove_35 ?_
        refine lv_iload_n (pc := 38) hx hb dH_canRemove_38 rfl (lv_at hl 2 rfl) ?_
        refine lv_iload_n (pc := 39) hx hb dH_canRemove_39 rfl (lv_at hl 3 rfl) ?_
        refine lv_iload_n (pc := 40) hx hb dH_canRemove_40 rfl (lv_at hl 0 rfl) ?_
        have hg := jbn_e hf; clear hf; obtain ⟨q7, h8, hf⟩ := hg
        refine j_cpi (pc := 41) (v := q7) (va_runV (As := [.int x1, .int x2, .int q1]) (rest := []) S (kJ_keepsChangesOf l D ca ad _ σ x1 x2 q1 q7 h8) (cwV 3 S.2.2.2.2 (jgV k_486 k_487 k_488 k_2 k_489) rfl rfl rfl (by decide +kernel) ⟨Nat.le_of_ble_eq_true rfl, Nat.le_of_ble_eq_true rfl⟩) (j_preV (As := [.int x1, .int x2, .int q1]) hw xN_b (xN_to hN hw hA) rfl xg_1) rfl rfl hl.1 rfl (lv_room (Nat.le_of_ble_eq_true rfl)) dH_canRemove_41 ⟨Nat.le_of_ble_eq_true rfl, Nat.le_of_ble_eq_true rfl⟩) ?_
        refine lv_if_eq (pc := 44) (tgt := 51) hx hb dH_canRemove_44 (by decide) (fun hc => ?_) (fun hc => ?_)
        · replace hf := jit hf hc
          refine lv_iconst (pc := 51) (v := (0 : Int32)) hx hb dH_canRemove_51 (by decide) ?_
          obtain rfl := jsm hf
          exact j_zpr (pc := 52) S hr hlk (Or.inl rfl) dH_canRemove_52
        · replace hf := jif hf hc
          refine lv_iconst (pc := 47) (v := (1 : Int32)) hx hb dH_canRemove_47 (by decide) ?_
          refine lv_goto (pc := 48) (tgt := 52) hx hb dH_canRemove_48 (by decide) ?_
          obtain rfl := jsm hf
          exact j_zpr (pc := 52) S hr hlk (Or.inr rfl) dH_canRemove_52
set_option maxHeartbeats 4000000 in
set_option maxRecDepth 100000 in
theorem kH_canRemove (l : Launch) (D : va_G) (ca : Nat → ClassId) (ad : Nat → Nat) (sz : Nat) (σ : JS) (x1 : Int32) (x2 : Int32) (out : Int32) (hf : mH_canRemove σ x1 x2 = some out) : Met l yH_canRemove wsH_canRemove rmH_canRemove (jPre D (xT ca) (xC ca ad σ) (xN (va_A (xC ca ad σ) sz)) sz [.ref (ad 0), .int x1, .int x2]) (jSi out) 0 0 (fun _ => False) := by
  refine Met.ofW (cc := cH_canRemove) (maxL := 4) (ret := some .boolean) (by decide) rfl ?_
  intro p e s m args below meth c s₁ B hml hv
  obtain ⟨rfl, hsz, hP, hK, hD0, hN⟩ := hv
  subst hsz
  have hl := lv_entry [.ref (ad 0), .int x1, .int x2] (n := 4) (Nat.le_of_ble_eq_true rfl)
  rw [lg_entry_eq]
  generalize (lg_sl [.ref (ad 0), .int x1, .int x2] ++ List.replicate (4 - (lg_sl [.ref (ad 0), .int x1, .int x2]).length) Slot.unset).toArray = ls at hl ⊢
  exact bH_canRemove (fun q h => Or.inr h) ⟨B.exec, B.bytes, hml, findClass_of_methodNamed B.named, fun w h => atoms_spec (ws := wsH_canRemove) B.pre w (List.mem_cons_of_mem _ h)⟩ hN B.returns B.notSynchronized out σ x1 x2 ls hl ⟨hP, hD0.self, va_S.rf, hK⟩ hf

def rmH_number : Room := { frames := 1, cells := 0, slots := 0, locals := 21 }
def mH_number (σ : JS) (x1 : Int32) : Option (Int32) :=
  jbn (mH_isFile σ x1) fun q1 =>
  if q1 = 0 then
  (some (-1 : Int32))
  else
  (jrd σ 27 3 x1 fun v3 =>
  some v3)
set_option maxHeartbeats 4000000 in
set_option maxRecDepth 100000 in
theorem bH_number {p : Program} {l : Launch} {e : Env} {s : State} {m : MethodId} {args : Array Value} {below : List Frame} {meth : Method} {c : Code} {D : va_G} {ca : Nat → ClassId} {ad : Nat → Nat} {A : Nat → Prop} (hA : ∀ q, s.heap.size ≤ q → A q) (S : CallFix p m c cH_number 2 s args jall RH) (hN : xN A s) (hr : meth.sig.returnType = some .int) (hlk : meth.locks = false) (out : Int32) (σ : JS) (x1 : Int32) (ls : Array Slot) (hl : lv_has ls 2 [(0, .ref (ad 0)), (1, .int x1)]) (hw : jH D (xT ca) (xC ca ad σ) A s.heap s.heap [] s) (hf : mH_number σ x1 = some out) : W p l e (headSpec wsH_number rmH_number).room s m args below meth c s.heap [] 0 0 (MQ below (jSi out) args s 0 0 (fun _ => False)) (F0 m 0 ls []) := by
  have hx := S.1
  have hb := S.2.1
  unfold mH_number at hf
  refine lv_aload_n (pc := 0) hx hb dH_number_0 rfl (lv_at hl 0 rfl) ?_
  refine lv_iload_n (pc := 1) hx hb dH_number_1 rfl (lv_at hl 1 rfl) ?_
  have hg := jbn_e hf; clear hf; obtain ⟨q1, h2, hf⟩ := hg
  refine j_cpi (pc := 2) (v := q1) (va_runV (As := [.int x1]) (rest := []) S (kH_isFile l D ca ad _ σ x1 q1 h2) (cwV 1 S.2.2.2.2 (jgV k_207 k_209 ks_0 k_1 k_210) rfl rfl rfl (by decide +kernel) ⟨Nat.le_of_ble_eq_true rfl, Nat.le_of_ble_eq_true rfl⟩) (j_preV (As := [.int x1]) hw xN_b (xN_to hN hw hA) rfl xg_0) rfl rfl hl.1 rfl (lv_room (Nat.le_of_ble_eq_true rfl)) dH_number_2 ⟨Nat.le_of_ble_eq_true rfl, Nat.le_of_ble_eq_true rfl⟩) ?_
  refine lv_if_eq (pc := 5) (tgt := 17) hx hb dH_number_5 (by decide) (fun hc => ?_) (fun hc => ?_)
  · replace hf := jit hf hc
    refine lv_iconst (pc := 17) (v := (-1 : Int32)) hx hb dH_number_17 (by decide) ?_
    obtain rfl := jsm hf
    exact j_ipr (pc := 18) S hr hlk dH_number_18
  · replace hf := jif hf hc
    refine lv_aload_n (pc := 8) hx hb dH_number_8 rfl (lv_at hl 0 rfl) ?_
    refine j_get (pc := 9) (v := .ref (ad 27)) S hw inH 0 0 6 xg_0 rfl (by decide) k_168 rfl dH_number_9 ?_
    refine lv_iload_n (pc := 12) hx hb dH_number_12 rfl (lv_at hl 1 rfl) ?_
    have hg := jrd_e hf; clear hf; obtain ⟨h4, v3, e5, hf⟩ := hg
    refine j_iald (pc := 13) S hw 27 21 xg_27 xt_27 h4 e5 dH_number_13 ?_
    refine lv_goto (pc := 14) (tgt := 18) hx hb dH_number_14 (by decide) ?_
    obtain rfl := jsm hf
    exact j_ipr (pc := 18) S hr hlk dH_number_18
set_option maxHeartbeats 4000000 in
set_option maxRecDepth 100000 in
theorem kH_number (l : Launch) (D : va_G) (ca : Nat → ClassId) (ad : Nat → Nat) (sz : Nat) (σ : JS) (x1 : Int32) (out : Int32) (hf : mH_number σ x1 = some out) : Met l yH_number wsH_number rmH_number (jPre D (xT ca) (xC ca ad σ) (xN (va_A (xC ca ad σ) sz)) sz [.ref (ad 0), .int x1]) (jSi out) 0 0 (fun _ => False) := by
  refine Met.ofW (cc := cH_number) (maxL := 2) (ret := some .int) (by decide) rfl ?_
  intro p e s m args below meth c s₁ B hml hv
  obtain ⟨rfl, hsz, hP, hK, hD0, hN⟩ := hv
  subst hsz
  have hl := lv_entry [.ref (ad 0), .int x1] (n := 2) (Nat.le_of_ble_eq_true rfl)
  rw [lg_entry_eq]
  generalize (lg_sl [.ref (ad 0), .int x1] ++ List.replicate (2 - (lg_sl [.ref (ad 0), .int x1]).length) Slot.unset).toArray = ls at hl ⊢
  exact bH_number (fun q h => Or.inr h) ⟨B.exec, B.bytes, hml, findClass_of_methodNamed B.named, fun w h => atoms_spec (ws := wsH_number) B.pre w (List.mem_cons_of_mem _ h)⟩ hN B.returns B.notSynchronized out σ x1 ls hl ⟨hP, hD0.self, va_S.rf, hK⟩ hf

def rmH_last : Room := { frames := 0, cells := 0, slots := 0, locals := 0 }
def mH_last (σ : JS)  : Option (Int32) :=
  some (σ 100 0)
set_option maxHeartbeats 4000000 in
set_option maxRecDepth 100000 in
theorem bH_last {p : Program} {l : Launch} {e : Env} {s : State} {m : MethodId} {args : Array Value} {below : List Frame} {meth : Method} {c : Code} {D : va_G} {ca : Nat → ClassId} {ad : Nat → Nat} {A : Nat → Prop} (hA : ∀ q, s.heap.size ≤ q → A q) (S : CallFix p m c cH_last 1 s args jall RH) (hN : xN A s) (hr : meth.sig.returnType = some .int) (hlk : meth.locks = false) (out : Int32) (σ : JS)  (ls : Array Slot) (hl : lv_has ls 1 [(0, .ref (ad 0))]) (hw : jH D (xT ca) (xC ca ad σ) A s.heap s.heap [] s) (hf : mH_last σ  = some out) : W p l e (headSpec wsH_last rmH_last).room s m args below meth c s.heap [] 0 0 (MQ below (jSi out) args s 0 0 (fun _ => False)) (F0 m 0 ls []) := by
  have hx := S.1
  have hb := S.2.1
  unfold mH_last at hf
  refine lv_aload_n (pc := 0) hx hb dH_last_0 rfl (lv_at hl 0 rfl) ?_
  refine j_get (pc := 1) (v := .ref (ad 1)) S hw inH 0 0 0 xg_0 rfl (by decide) k_162 rfl dH_last_1 ?_
  refine j_get (pc := 4) (v := .int (σ 100 0)) S hw inJ 1 1 9 xg_1 rfl (by decide) k_50 rfl dH_last_4 ?_
  obtain rfl := jsm hf
  exact j_ipr (pc := 7) S hr hlk dH_last_7
set_option maxHeartbeats 4000000 in
set_option maxRecDepth 100000 in
theorem kH_last (l : Launch) (D : va_G) (ca : Nat → ClassId) (ad : Nat → Nat) (sz : Nat) (σ : JS)  (out : Int32) (hf : mH_last σ  = some out) : Met l yH_last wsH_last rmH_last (jPre D (xT ca) (xC ca ad σ) (xN (va_A (xC ca ad σ) sz)) sz [.ref (ad 0)]) (jSi out) 0 0 (fun _ => False) := by
  refine Met.ofW (cc := cH_last) (maxL := 1) (ret := some .int) (by decide) rfl ?_
  intro p e s m args below meth c s₁ B hml hv
  obtain ⟨rfl, hsz, hP, hK, hD0, hN⟩ := hv
  subst hsz
  have hl := lv_entry [.ref (ad 0)] (n := 1) (Nat.le_of_ble_eq_true rfl)
  rw [lg_entry_eq]
  generalize (lg_sl [.ref (ad 0)] ++ List.replicate (1 - (lg_sl [.ref (ad 0)]).length) Slot.unset).toArray = ls at hl ⊢
  exact bH_last (fun q h => Or.inr h) ⟨B.exec, B.bytes, hml, findClass_of_methodNamed B.named, fun w h => atoms_spec (ws := wsH_last) B.pre w (List.mem_cons_of_mem _ h)⟩ hN B.returns B.notSynchronized out σ  ls hl ⟨hP, hD0.self, va_S.rf, hK⟩ hf

