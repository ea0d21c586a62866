def rmJ_noteOpenFiles : Room := { frames := 0, cells := 0, slots := 0, locals := 0 }
def mJ_noteOpenFiles_L4 (k : Int32 → Int32 → Option (JS)) (σ : JS) : Nat → Int32 → Int32 → Option (JS)
  | 0, _, _ => none
  | n + 1, x1, x2 =>
    if (3 : Int32) < x2 then
    (k x1 x2)
    else
    (jrd σ 14 4 x2 fun v1 =>
    mJ_noteOpenFiles_L4 k σ n (x1 ||| v1) (x2 + 1))
def mJ_noteOpenFiles (σ : JS)  : Option (JS) :=
  mJ_noteOpenFiles_L4 (fun z4 z5 =>
  jwr σ 11 121 (σ 100 0) z4 fun σ6 =>
  some σ6) σ 999 (0 : Int32) (0 : Int32)
set_option maxHeartbeats 4000000 in
set_option maxRecDepth 100000 in
theorem wmJ_noteOpenFiles_L4 {p : Program} {l : Launch} {e : Env} {s : State} {m : MethodId} {args : Array Value} {below : List Frame} {meth : Method} {c : Code} {D : va_G} {ca : Nat → ClassId} {ad : Nat → Nat} {A : Nat → Prop} (hA : ∀ q, s.heap.size ≤ q → A q) (S : CallFix p m c cJ_noteOpenFiles 3 s args jall RJ) (hN : xN A s) (hr : meth.sig.returnType = none) (hlk : meth.locks = false) (out : JS) (k : Int32 → Int32 → Option (JS)) (σ : JS) (hk : ∀ (x1 : Int32) (x2 : Int32) (ls : Array Slot) , lv_has ls 3 [(0, .ref (ad 1)), (1, .int x1), (2, .int x2)] → jH D (xT ca) (xC ca ad σ) A s.heap s.heap [] s → k x1 x2 = some out → W p l e (headSpec wsJ_noteOpenFiles rmJ_noteOpenFiles).room s m args below meth c s.heap [] 0 0 (MQ below (jQv D (xT ca) (xC ca ad) A out) args s 0 0 A) (F0 m 24 ls [])) : ∀ (n : Nat) (x1 : Int32) (x2 : Int32) (ls : Array Slot) , lv_has ls 3 [(0, .ref (ad 1)), (1, .int x1), (2, .int x2)] → jH D (xT ca) (xC ca ad σ) A s.heap s.heap [] s → mJ_noteOpenFiles_L4 k σ n x1 x2 = some out → W p l e (headSpec wsJ_noteOpenFiles rmJ_noteOpenFiles).room s m args below meth c s.heap [] 0 0 (MQ below (jQv D (xT ca) (xC ca ad) A out) args s 0 0 A) (F0 m 4 ls []) := by
  have hx := S.1
  have hb := S.2.1
  intro n
  induction n with
  | zero => intro x1 x2 ls hl hw hf; cases hf
  | succ n ih =>
    intro x1 x2 ls hl hw hf
    rw [mJ_noteOpenFiles_L4] at hf
    refine lv_iload_n (pc := 4) hx hb dJ_noteOpenFiles_4 rfl (lv_at hl 2 rfl) ?_
    refine lv_iconst (pc := 5) (v := (3 : Int32)) hx hb dJ_noteOpenFiles_5 (by decide) ?_
    refine lv_icmp_gt (pc := 6) (tgt := 24) hx hb dJ_noteOpenFiles_6 (by decide) (fun hc => ?_) (fun hc => ?_)
    · replace hf := jit hf hc
      exact hk x1 x2 _ (lv_sub hl [0, 1, 2] rfl) hw hf
    · replace hf := jif hf hc
      refine lv_iload_n (pc := 9) hx hb dJ_noteOpenFiles_9 rfl (lv_at hl 1 rfl) ?_
      refine lv_aload_n (pc := 10) hx hb dJ_noteOpenFiles_10 rfl (lv_at hl 0 rfl) ?_
      refine j_get (pc := 11) (v := .ref (ad 14)) S hw inJ 1 1 8 xg_1 rfl (by decide) k_48 rfl dJ_noteOpenFiles_11 ?_
      refine lv_iload_n (pc := 14) hx hb dJ_noteOpenFiles_14 rfl (lv_at hl 2 rfl) ?_
      have hg := jrd_e hf; clear hf; obtain ⟨h2, v1, e3, hf⟩ := hg
      refine j_iald (pc := 15) S hw 14 8 xg_14 xt_14 h2 e3 dJ_noteOpenFiles_15 ?_
      refine lv_ior (pc := 16) hx hb dJ_noteOpenFiles_16 ?_
      refine lv_istore_n (pc := 17) (lv' := [(1, .int (x1 ||| v1)), (0, .ref (ad 1)), (2, .int x2)]) hx hb dJ_noteOpenFiles_17 rfl hl (by decide) rfl (fun ls hl => ?_)
      refine lv_iinc (pc := 18) (v := (x2 + 1)) (k := 2) (lv' := [(2, .int (x2 + 1)), (1, .int (x1 ||| v1)), (0, .ref (ad 1))]) hx hb dJ_noteOpenFiles_18 hl rfl (j_inc _ (by decide)) (by decide) rfl (fun ls hl => ?_)
      refine lv_goto (pc := 21) (tgt := 4) hx hb dJ_noteOpenFiles_21 (by decide) ?_
      exact ih (x1 ||| v1) (x2 + 1) _ (lv_sub hl [2, 1, 0] rfl) hw hf
set_option maxHeartbeats 4000000 in
set_option maxRecDepth 100000 in
theorem bJ_noteOpenFiles {p : Program} {l : Launch} {e : Env} {s : State} {m : MethodId} {args : Array Value} {below : List Frame} {meth : Method} {c : Code} {D : va_G} {ca : Nat → ClassId} {ad : Nat → Nat} {A : Nat → Prop} (hA : ∀ q, s.heap.size ≤ q → A q) (S : CallFix p m c cJ_noteOpenFiles 3 s args jall RJ) (hN : xN A s) (hr : meth.sig.returnType = none) (hlk : meth.locks = false) (out : JS) (σ : JS)  (ls : Array Slot) (hl : lv_has ls 3 [(0, .ref (ad 1))]) (hw : jH D (xT ca) (xC ca ad σ) A s.heap s.heap [] s) (hf : mJ_noteOpenFiles σ  = some out) : W p l e (headSpec wsJ_noteOpenFiles rmJ_noteOpenFiles).room s m args below meth c s.heap [] 0 0 (MQ below (jQv D (xT ca) (xC ca ad) A out) args s 0 0 A) (F0 m 0 ls []) := by
  have hx := S.1
  have hb := S.2.1
  unfold mJ_noteOpenFiles at hf
  refine lv_iconst (pc := 0) (v := (0 : Int32)) hx hb dJ_noteOpenFiles_0 (by decide) ?_
  refine lv_istore_n (pc := 1) (lv' := [(1, .int (0 : Int32)), (0, .ref (ad 1))]) hx hb dJ_noteOpenFiles_1 rfl hl (by decide) rfl (fun ls hl => ?_)
  refine lv_iconst (pc := 2) (v := (0 : Int32)) hx hb dJ_noteOpenFiles_2 (by decide) ?_
  refine lv_istore_n (pc := 3) (lv' := [(2, .int (0 : Int32)), (1, .int (0 : Int32)), (0, .ref (ad 1))]) hx hb dJ_noteOpenFiles_3 rfl hl (by decide) rfl (fun ls hl => ?_)
  refine wmJ_noteOpenFiles_L4 hA S hN hr hlk out _ σ (fun z4 z5 ls hl hw hf => ?_) 999 (0 : Int32) (0 : Int32) _ (lv_sub hl [2, 1, 0] rfl) hw hf
  try dsimp only at hf
  refine lv_aload_n (pc := 24) hx hb dJ_noteOpenFiles_24 rfl (lv_at hl 0 rfl) ?_
  refine j_get (pc := 25) (v := .ref (ad 11)) S hw inJ 1 1 5 xg_1 rfl (by decide) k_44 rfl dJ_noteOpenFiles_25 ?_
  refine lv_aload_n (pc := 28) hx hb dJ_noteOpenFiles_28 rfl (lv_at hl 0 rfl) ?_
  refine j_get (pc := 29) (v := .int (σ 100 0)) S hw inJ 1 1 9 xg_1 rfl (by decide) k_49 rfl dJ_noteOpenFiles_29 ?_
  refine lv_iload_n (pc := 32) hx hb dJ_noteOpenFiles_32 rfl (lv_at hl 1 rfl) ?_
  have hg := jwr_e hf; clear hf; obtain ⟨h7, σ6, e8, hf⟩ := hg
  refine j_iast (pc := 33) (ws' := xC ca ad σ6) S hw 11 5 xg_11 xt_11 h7 (by rw [e8]; exact xs_11) dJ_noteOpenFiles_33 (fun H locs hw => ?_)
  obtain rfl := jsm hf
  exact j_vret (pc := 34) S hw hr hlk dJ_noteOpenFiles_34
set_option maxHeartbeats 4000000 in
set_option maxRecDepth 100000 in
theorem kJ_noteOpenFiles (l : Launch) (D : va_G) (ca : Nat → ClassId) (ad : Nat → Nat) (sz : Nat) (σ : JS)  (out : JS) (hf : mJ_noteOpenFiles σ  = some out) : Met l yJ_noteOpenFiles wsJ_noteOpenFiles rmJ_noteOpenFiles (jPre D (xT ca) (xC ca ad σ) (xN (va_A (xC ca ad σ) sz)) sz [.ref (ad 1)]) (jQv D (xT ca) (xC ca ad) (va_A (xC ca ad σ) sz) out) 0 0 (va_A (xC ca ad σ) sz) := by
  refine Met.ofW (cc := cJ_noteOpenFiles) (maxL := 3) (ret := none) (by decide) rfl ?_
  intro p e s m args below meth c s₁ B hml hv
  obtain ⟨rfl, hsz, hP, hK, hD0, hN⟩ := hv
  subst hsz
  have hl := lv_entry [.ref (ad 1)] (n := 3) (Nat.le_of_ble_eq_true rfl)
  rw [lg_entry_eq]
  generalize (lg_sl [.ref (ad 1)] ++ List.replicate (3 - (lg_sl [.ref (ad 1)]).length) Slot.unset).toArray = ls at hl ⊢
  exact bJ_noteOpenFiles (fun q h => Or.inr h) ⟨B.exec, B.bytes, hml, findClass_of_methodNamed B.named, fun w h => atoms_spec (ws := wsJ_noteOpenFiles) B.pre w (List.mem_cons_of_mem _ h)⟩ hN B.returns B.notSynchronized out σ  ls hl ⟨hP, hD0.self, va_S.rf, hK⟩ hf

def rmJ_addChange : Room := { frames := 1, cells := 0, slots := 0, locals := 22 }
def mJ_addChange_J80 (σ : JS) (x1 : Int32) (x2 : Int32) : Option (JS) :=
  jrd σ 13 4 x1 fun v21 =>
  jwr σ 13 4 x1 (v21 + (1 : Int32)) fun σ24 =>
  jrd σ24 14 4 x1 fun v27 =>
  jbn (mH_fileOf σ24 x2) fun q30 =>
  jwr σ24 14 4 x1 (v27 ||| ((1 : Int32) <<< (q30 &&& 31))) fun σ32 =>
  jbn (mJ_noteOpenFiles σ32 ) fun q35 =>
  some q35
def mJ_addChange (σ : JS) (x1 : Int32) (x2 : Int32) (x3 : Int32) (x4 : Int32) : Option (JS) :=
  jst (jw2 σ 100 0 ((σ 100 0) + (1 : Int32))) fun σ1 =>
  jwr σ1 6 121 (σ1 100 0) (1 : Int32) fun σ3 =>
  jwr σ3 7 121 (σ3 100 0) x1 fun σ6 =>
  jwr σ6 8 121 (σ6 100 0) x2 fun σ9 =>
  jwr σ9 9 121 (σ9 100 0) x3 fun σ12 =>
  jwr σ12 10 121 (σ12 100 0) x4 fun σ15 =>
  jrd σ15 12 4 x1 fun v18 =>
  if v18 = 0 then
  (jwr σ15 12 4 x1 (σ15 100 0) fun σ37 =>
  mJ_addChange_J80 σ37 x1 x2)
  else
  (mJ_addChange_J80 σ15 x1 x2)
set_option maxHeartbeats 4000000 in
set_option maxRecDepth 100000 in
theorem wmJ_addChange_J80g {p : Program} {l : Launch} {e : Env} {s : State} {m : MethodId} {args : Array Value} {below : List Frame} {meth : Method} {c : Code} {D : va_G} {ca : Nat → ClassId} {ad : Nat → Nat} {A : Nat → Prop} (hA : ∀ q, s.heap.size ≤ q → A q) (S : CallFix p m c cJ_addChange 5 s args jall RJ) (hN : xN A s) (hr : meth.sig.returnType = none) (hlk : meth.locks = false) (out : JS) (σ : JS) (x1 : Int32) (x2 : Int32) (ls : Array Slot) (H : Heap) (locs : List Loc) (hl : lv_has ls 5 [(0, .ref (ad 1)), (1, .int x1), (2, .int x2)]) (hw : jH D (xT ca) (xC ca ad σ) A s.heap H locs s) (hf : mJ_addChange_J80 σ x1 x2 = some out) : W p l e (headSpec wsJ_addChange rmJ_addChange).room s m args below meth c H locs 0 0 (MQ below (jQv D (xT ca) (xC ca ad) A out) args s 0 0 A) (F0 m 80 ls []) := by
  have hx := S.1
  have hb := S.2.1
  unfold mJ_addChange_J80 at hf
  refine lv_aload_n (pc := 80) hx hb dJ_addChange_80 rfl (lv_at hl 0 rfl) ?_
  refine j_get (pc := 81) (v := .ref (ad 13)) S hw inJ 1 1 7 xg_1 rfl (by decide) k_47 rfl dJ_addChange_81 ?_
  refine lv_iload_n (pc := 84) hx hb dJ_addChange_84 rfl (lv_at hl 1 rfl) ?_
  refine lv_dup2_11 (pc := 85) hx hb dJ_addChange_85 rfl rfl ?_
  have hg := jrd_e hf; clear hf; obtain ⟨h22, v21, e23, hf⟩ := hg
  refine j_iald (pc := 86) S hw 13 7 xg_13 xt_13 h22 e23 dJ_addChange_86 ?_
  refine lv_iconst (pc := 87) (v := (1 : Int32)) hx hb dJ_addChange_87 (by decide) ?_
  refine lv_iadd (pc := 88) hx hb dJ_addChange_88 ?_
  have hg := jwr_e hf; clear hf; obtain ⟨h25, σ24, e26, hf⟩ := hg
  refine j_iast (pc := 89) (ws' := xC ca ad σ24) S hw 13 7 xg_13 xt_13 h25 (by rw [e26]; exact xs_13) dJ_addChange_89 (fun H locs hw => ?_)
  refine lv_aload_n (pc := 90) hx hb dJ_addChange_90 rfl (lv_at hl 0 rfl) ?_
  refine j_get (pc := 91) (v := .ref (ad 14)) S hw inJ 1 1 8 xg_1 rfl (by decide) k_48 rfl dJ_addChange_91 ?_
  refine lv_iload_n (pc := 94) hx hb dJ_addChange_94 rfl (lv_at hl 1 rfl) ?_
  refine lv_dup2_11 (pc := 95) hx hb dJ_addChange_95 rfl rfl ?_
  have hg := jrd_e hf; clear hf; obtain ⟨h28, v27, e29, hf⟩ := hg
  refine j_iald (pc := 96) S hw 14 8 xg_14 xt_14 h28 e29 dJ_addChange_96 ?_
  refine lv_iconst (pc := 97) (v := (1 : Int32)) hx hb dJ_addChange_97 (by decide) ?_
  refine lv_iload_n (pc := 98) hx hb dJ_addChange_98 rfl (lv_at hl 2 rfl) ?_
  have hg := jbn_e hf; clear hf; obtain ⟨q30, h31, hf⟩ := hg
  refine j_cpi (pc := 99) (v := q30) (va_runSN (host := "JournalHouse") (As := [.int x2]) (rest := [.int (1 : Int32), .int v27, .int x1, .ref (ad 14)]) S (kH_fileOf l D ca ad _ σ24 x2 q30 h31) ⟨va_cnB 1 S.2.2.2.2 (jgN k_253) rfl rfl rfl (xN_w hN b_401 _) (S.2.2.2.2 _ k_1) (by decide +kernel) ⟨Nat.le_of_ble_eq_true rfl, Nat.le_of_ble_eq_true rfl⟩, S.2.2.2.2 _ k_252, trivial⟩ (j_preS hw xN_b (xN_to hN hw hA)) rfl rfl hl.1 rfl (lv_room (Nat.le_of_ble_eq_true rfl)) dJ_addChange_99 ⟨Nat.le_of_ble_eq_true rfl, Nat.le_of_ble_eq_true rfl⟩) ?_
  refine lv_ishl (pc := 102) hx hb dJ_addChange_102 ?_
  refine lv_ior (pc := 103) hx hb dJ_addChange_103 ?_
  have hg := jwr_e hf; clear hf; obtain ⟨h33, σ32, e34, hf⟩ := hg
  refine j_iast (pc := 104) (ws' := xC ca ad σ32) S hw 14 8 xg_14 xt_14 h33 (by rw [e34]; exact xs_14) dJ_addChange_104 (fun H locs hw => ?_)
  refine lv_aload_n (pc := 105) hx hb dJ_addChange_105 rfl (lv_at hl 0 rfl) ?_
  have hg := jbn_e hf; clear hf; obtain ⟨q35, h36, hf⟩ := hg
  refine j_callv (pc := 106) (C := xC ca ad) (σ' := q35) hw hA (va_runV (As := []) (rest := []) S (kJ_noteOpenFiles l D ca ad _ σ32  q35 h36) (cwV 0 S.2.2.2.2 (jgV k_402 k_404 ks_4 k_2 k_405) rfl rfl rfl (by decide +kernel) ⟨Nat.le_of_ble_eq_true rfl, Nat.le_of_ble_eq_true rfl⟩) (j_preV (As := []) hw xN_b (xN_to hN hw hA) rfl xg_1) rfl rfl hl.1 rfl (lv_room (Nat.le_of_ble_eq_true rfl)) dJ_addChange_106 ⟨Nat.le_of_ble_eq_true rfl, Nat.le_of_ble_eq_true rfl⟩) (fun H locs hw => ?_)
  obtain rfl := jsm hf
  exact j_vret (pc := 109) S hw hr hlk dJ_addChange_109
set_option maxHeartbeats 4000000 in
set_option maxRecDepth 100000 in
theorem bJ_addChange {p : Program} {l : Launch} {e : Env} {s : State} {m : MethodId} {args : Array Value} {below : List Frame} {meth : Method} {c : Code} {D : va_G} {ca : Nat → ClassId} {ad : Nat → Nat} {A : Nat → Prop} (hA : ∀ q, s.heap.size ≤ q → A q) (S : CallFix p m c cJ_addChange 5 s args jall RJ) (hN : xN A s) (hr : meth.sig.returnType = none) (hlk : meth.locks = false) (out : JS) (σ : JS) (x1 : Int32) (x2 : Int32) (x3 : Int32) (x4 : Int32) (ls : Array Slot) (hl : lv_has ls 5 [(0, .ref (ad 1)), (1, .int x1), (2, .int x2), (3, .int x3), (4, .int x4)]) (hw : jH D (xT ca) (xC ca ad σ) A s.heap s.heap [] s) (hf : mJ_addChange σ x1 x2 x3 x4 = some out) : W p l e (headSpec wsJ_addChange rmJ_addChange).room s m args below meth c s.heap [] 0 0 (MQ below (jQv D (xT ca) (xC ca ad) A out) args s 0 0 A) (F0 m 0 ls []) := by
  have hx := S.1
  have hb := S.2.1
  unfold mJ_addChange at hf
  refine lv_aload_n (pc := 0) hx hb dJ_addChange_0 rfl (lv_at hl 0 rfl) ?_
  refine lv_dup (pc := 1) hx hb dJ_addChange_1 rfl ?_
  refine j_get (pc := 2) (v := .int (σ 100 0)) S hw inJ 1 1 9 xg_1 rfl (by decide) k_49 rfl dJ_addChange_2 ?_
  refine lv_iconst (pc := 5) (v := (1 : Int32)) hx hb dJ_addChange_5 (by decide) ?_
  refine lv_iadd (pc := 6) hx hb dJ_addChange_6 ?_
  have hg := jst_e hf; clear hf; obtain ⟨σ1, e2, hf⟩ := hg
  refine j_put (pc := 7) (v := .int ((σ 100 0) + (1 : Int32))) (ws' := xC ca ad σ1) S hw inJ tyJ tyJ_ok nmJ 1 1 9 xg_1 rfl (by decide) k_49 rfl rfl rfl (Nat.le_of_ble_eq_true rfl) (by rw [e2]; exact xp_0) dJ_addChange_7 (fun H locs hw => ?_)
  refine lv_aload_n (pc := 10) hx hb dJ_addChange_10 rfl (lv_at hl 0 rfl) ?_
  refine j_get (pc := 11) (v := .ref (ad 6)) S hw inJ 1 1 0 xg_1 rfl (by decide) k_29 rfl dJ_addChange_11 ?_
  refine lv_aload_n (pc := 14) hx hb dJ_addChange_14 rfl (lv_at hl 0 rfl) ?_
  refine j_get (pc := 15) (v := .int (σ1 100 0)) S hw inJ 1 1 9 xg_1 rfl (by decide) k_49 rfl dJ_addChange_15 ?_
  refine lv_iconst (pc := 18) (v := (1 : Int32)) hx hb dJ_addChange_18 (by decide) ?_
  have hg := jwr_e hf; clear hf; obtain ⟨h4, σ3, e5, hf⟩ := hg
  refine j_iast (pc := 19) (ws' := xC ca ad σ3) S hw 6 0 xg_6 xt_6 h4 (by rw [e5]; exact xs_6) dJ_addChange_19 (fun H locs hw => ?_)
  refine lv_aload_n (pc := 20) hx hb dJ_addChange_20 rfl (lv_at hl 0 rfl) ?_
  refine j_get (pc := 21) (v := .ref (ad 7)) S hw inJ 1 1 1 xg_1 rfl (by decide) k_32 rfl dJ_addChange_21 ?_
  refine lv_aload_n (pc := 24) hx hb dJ_addChange_24 rfl (lv_at hl 0 rfl) ?_
  refine j_get (pc := 25) (v := .int (σ3 100 0)) S hw inJ 1 1 9 xg_1 rfl (by decide) k_49 rfl dJ_addChange_25 ?_
  refine lv_iload_n (pc := 28) hx hb dJ_addChange_28 rfl (lv_at hl 1 rfl) ?_
  have hg := jwr_e hf; clear hf; obtain ⟨h7, σ6, e8, hf⟩ := hg
  refine j_iast (pc := 29) (ws' := xC ca ad σ6) S hw 7 1 xg_7 xt_7 h7 (by rw [e8]; exact xs_7) dJ_addChange_29 (fun H locs hw => ?_)
  refine lv_aload_n (pc := 30) hx hb dJ_addChange_30 rfl (lv_at hl 0 rfl) ?_
  refine j_get (pc := 31) (v := .ref (ad 8)) S hw inJ 1 1 2 xg_1 rfl (by decide) k_35 rfl dJ_addChange_31 ?_
  refine lv_aload_n (pc := 34) hx hb dJ_addChange_34 rfl (lv_at hl 0 rfl) ?_
  refine j_get (pc := 35) (v := .int (σ6 100 0)) S hw inJ 1 1 9 xg_1 rfl (by decide) k_49 rfl dJ_addChange_35 ?_
  refine lv_iload_n (pc := 38) hx hb dJ_addChange_38 rfl (lv_at hl 2 rfl) ?_
  have hg := jwr_e hf; clear hf; obtain ⟨h10, σ9, e11, hf⟩ := hg
  refine j_iast (pc := 39) (ws' := xC ca ad σ9) S hw 8 2 xg_8 xt_8 h10 (by rw [e11]; exact xs_8) dJ_addChange_39 (fun H locs hw => ?_)
  refine lv_aload_n (pc := 40) hx hb dJ_addChange_40 rfl (lv_at hl 0 rfl) ?_
  refine j_get (pc := 41) (v := .ref (ad 9)) S hw inJ 1 1 3 xg_1 rfl (by decide) k_38 rfl dJ_addChange_41 ?_
  refine lv_aload_n (pc := 44) hx hb dJ_addChange_44 rfl (lv_at hl 0 rfl) ?_
  refine j_get (pc := 45) (v := .int (σ9 100 0)) S hw inJ 1 1 9 xg_1 rfl (by decide) k_49 rfl dJ_addChange_45 ?_
  refine lv_iload_n (pc := 48) hx hb dJ_addChange_48 rfl (lv_at hl 3 rfl) ?_
  have hg := jwr_e hf; clear hf; obtain ⟨h13, σ12, e14, hf⟩ := hg
  refine j_iast (pc := 49) (ws' := xC ca ad σ12) S hw 9 3 xg_9 xt_9 h13 (by rw [e14]; exact xs_9) dJ_addChange_49 (fun H locs hw => ?_)
  refine lv_aload_n (pc := 50) hx hb dJ_addChange_50 rfl (lv_at hl 0 rfl) ?_
  refine j_get (pc := 51) (v := .ref (ad 10)) S hw inJ 1 1 4 xg_1 rfl (by decide) k_41 rfl dJ_addChange_51 ?_
  refine lv_aload_n (pc := 54) hx hb dJ_addChange_54 rfl (lv_at hl 0 rfl) ?_
  refine j_get (pc := 55) (v := .int (σ12 100 0)) S hw inJ 1 1 9 xg_1 rfl (by decide) k_49 rfl dJ_addChange_55 ?_
  refine lv_iload (pc := 58) hx hb dJ_addChange_58 (lv_at hl 4 rfl) ?_
  have hg := jwr_e hf; clear hf; obtain ⟨h16, σ15, e17, hf⟩ := hg
  refine j_iast (pc := 60) (ws' := xC ca ad σ15) S hw 10 4 xg_10 xt_10 h16 (by rw [e17]; exact xs_10) dJ_addChange_60 (fun H locs hw => ?_)
  refine lv_aload_n (pc := 61) hx hb dJ_addChange_61 rfl (lv_at hl 0 rfl) ?_
  refine j_get (pc := 62) (v := .ref (ad 12)) S hw inJ 1 1 6 xg_1 rfl (by decide) k_45 rfl dJ_addChange_62 ?_
  refine lv_iload_n (pc := 65) hx hb dJ_addChange_65 rfl (lv_at hl 1 rfl) ?_
  have hg := jrd_e hf; clear hf; obtain ⟨h19, v18, e20, hf⟩ := hg
  refine j_iald (pc := 66) S hw 12 6 xg_12 xt_12 h19 e20 dJ_addChange_66 ?_
  refine lv_if_ne (pc := 67) (tgt := 80) hx hb dJ_addChange_67 (by decide) (fun hc => ?_) (fun hc => ?_)
  · replace hf := jif hf hc
    exact wmJ_addChange_J80g hA S hN hr hlk out σ15 x1 x2 _ _ _ (lv_sub hl [0, 1, 2] rfl) hw hf
  · replace hf := jit hf hc
    refine lv_aload_n (pc := 70) hx hb dJ_addChange_70 rfl (lv_at hl 0 rfl) ?_
    refine j_get (pc := 71) (v := .ref (ad 12)) S hw inJ 1 1 6 xg_1 rfl (by decide) k_45 rfl dJ_addChange_71 ?_
    refine lv_iload_n (pc := 74) hx hb dJ_addChange_74 rfl (lv_at hl 1 rfl) ?_
    refine lv_aload_n (pc := 75) hx hb dJ_addChange_75 rfl (lv_at hl 0 rfl) ?_
    refine j_get (pc := 76) (v := .int (σ15 100 0)) S hw inJ 1 1 9 xg_1 rfl (by decide) k_49 rfl dJ_addChange_76 ?_
    have hg := jwr_e hf; clear hf; obtain ⟨h38, σ37, e39, hf⟩ := hg
    refine j_iast (pc := 79) (ws' := xC ca ad σ37) S hw 12 6 xg_12 xt_12 h38 (by rw [e39]; exact xs_12) dJ_addChange_79 (fun H locs hw => ?_)
    exact wmJ_addChange_J80g hA S hN hr hlk out σ37 x1 x2 _ _ _ (lv_sub hl [0, 1, 2] rfl) hw hf
set_option maxHeartbeats 4000000 in
set_option maxRecDepth 100000 in
theorem kJ_addChange (l : Launch) (D : va_G) (ca : Nat → ClassId) (ad : Nat → Nat) (sz : Nat) (σ : JS) (x1 : Int32) (x2 : Int32) (x3 : Int32) (x4 : Int32) (out : JS) (hf : mJ_addChange σ x1 x2 x3 x4 = some out) : Met l yJ_addChange wsJ_addChange rmJ_addChange (jPre D (xT ca) (xC ca ad σ) (xN (va_A (xC ca ad σ) sz)) sz [.ref (ad 1), .int x1, .int x2, .int x3, .int x4]) (jQv D (xT ca) (xC ca ad) (va_A (xC ca ad σ) sz) out) 0 0 (va_A (xC ca ad σ) sz) := by
  refine Met.ofW (cc := cJ_addChange) (maxL := 5) (ret := none) (by decide) rfl ?_
  intro p e s m args below meth c s₁ B hml hv
  obtain ⟨rfl, hsz, hP, hK, hD0, hN⟩ := hv
  subst hsz
  have hl := lv_entry [.ref (ad 1), .int x1, .int x2, .int x3, .int x4] (n := 5) (Nat.le_of_ble_eq_true rfl)
  rw [lg_entry_eq]
  generalize (lg_sl [.ref (ad 1), .int x1, .int x2, .int x3, .int x4] ++ List.replicate (5 - (lg_sl [.ref (ad 1), .int x1, .int x2, .int x3, .int x4]).length) Slot.unset).toArray = ls at hl ⊢
  exact bJ_addChange (fun q h => Or.inr h) ⟨B.exec, B.bytes, hml, findClass_of_methodNamed B.named, fun w h => atoms_spec (ws := wsJ_addChange) B.pre w (List.mem_cons_of_mem _ h)⟩ hN B.returns B.notSynchronized out σ x1 x2 x3 x4 ls hl ⟨hP, hD0.self, va_S.rf, hK⟩ hf

def rmS_landOldest : Room := { frames := 1, cells := 0, slots := 0, locals := 20 }
def mS_landOldest_L2 (k : JS → Int32 → Option (JS)) (x1 : Int32) : Nat → JS → Int32 → Option (JS)
  | 0, _, _ => none
  | n + 1, σ, x2 =>
    if x1 ≤ x2 then
    (k σ x2)
    else
    (jrd σ 17 24 x2 fun v1 =>
    jrd σ 18 24 x2 fun v4 =>
    jwr σ 16 24 v1 v4 fun σ7 =>
    mS_landOldest_L2 k x1 n σ7 (x2 + 1))
def mS_landOldest (σ : JS) (x1 : Int32) : Option (JS) :=
  mS_landOldest_L2 (fun σ10 z11 =>
  jst (jw2 σ10 100 2 ((σ10 100 2) - x1)) fun σ12 =>
  jcp σ12 17 24 17 24 x1 (0 : Int32) (σ12 100 2) fun σ14 =>
  jcp σ14 18 24 18 24 x1 (0 : Int32) (σ14 100 2) fun σ21 =>
  some σ21) x1 999 σ (0 : Int32)
set_option maxHeartbeats 4000000 in
set_option maxRecDepth 100000 in
theorem wmS_landOldest_L2g {p : Program} {l : Launch} {e : Env} {s : State} {m : MethodId} {args : Array Value} {below : List Frame} {meth : Method} {c : Code} {D : va_G} {ca : Nat → ClassId} {ad : Nat → Nat} {A : Nat → Prop} (hA : ∀ q, s.heap.size ≤ q → A q) (S : CallFix p m c cS_landOldest 3 s args jall RS) (hN : xN A s) (hr : meth.sig.returnType = none) (hlk : meth.locks = false) (out : JS) (k : JS → Int32 → Option (JS)) (x1 : Int32) (hk : ∀ (σ : JS) (x2 : Int32) (ls : Array Slot) (H : Heap) (locs : List Loc), lv_has ls 3 [(0, .ref (ad 2)), (1, .int x1), (2, .int x2)] → jH D (xT ca) (xC ca ad σ) A s.heap H locs s → k σ x2 = some out → W p l e (headSpec wsS_landOldest rmS_landOldest).room s m args below meth c H locs 0 0 (MQ below (jQv D (xT ca) (xC ca ad) A out) args s 0 0 A) (F0 m 30 ls [])) : ∀ (n : Nat) (σ : JS) (x2 : Int32) (ls : Array Slot) (H : Heap) (locs : List Loc), lv_has ls 3 [(0, .ref (ad 2)), (1, .int x1), (2, .int x2)] → jH D (xT ca) (xC ca ad σ) A s.heap H locs s → mS_landOldest_L2 k x1 n σ x2 = some out → W p l e (headSpec wsS_landOldest rmS_landOldest).room s m args below meth c H locs 0 0 (MQ below (jQv D (xT ca) (xC ca ad) A out) args s 0 0 A) (F0 m 2 ls []) := by
  have hx := S.1
  have hb := S.2.1
  intro n
  induction n with
  | zero => intro σ x2 ls H locs hl hw hf; cases hf
  | succ n ih =>
    intro σ x2 ls H locs hl hw hf
    rw [mS_landOldest_L2] at hf
    refine lv_iload_n (pc := 2) hx hb dS_landOldest_2 rfl (lv_at hl 2 rfl) ?_
    refine lv_iload_n (pc := 3) hx hb dS_landOldest_3 rfl (lv_at hl 1 rfl) ?_
    refine lv_icmp_ge (pc := 4) (tgt := 30) hx hb dS_landOldest_4 (by decide) (fun hc => ?_) (fun hc => ?_)
    · replace hf := jit hf hc
      exact hk σ x2 _ _ _ (lv_sub hl [0, 1, 2] rfl) hw hf
    · replace hf := jif hf hc
      refine lv_aload_n (pc := 7) hx hb dS_landOldest_7 rfl (lv_at hl 0 rfl) ?_
      refine j_get (pc := 8) (v := .ref (ad 16)) S hw inS 2 2 1 xg_2 rfl (by decide) k_85 rfl dS_landOldest_8 ?_
      refine lv_aload_n (pc := 11) hx hb dS_landOldest_11 rfl (lv_at hl 0 rfl) ?_
      refine j_get (pc := 12) (v := .ref (ad 17)) S hw inS 2 2 2 xg_2 rfl (by decide) k_87 rfl dS_landOldest_12 ?_
      refine lv_iload_n (pc := 15) hx hb dS_landOldest_15 rfl (lv_at hl 2 rfl) ?_
      have hg := jrd_e hf; clear hf; obtain ⟨h2, v1, e3, hf⟩ := hg
      refine j_iald (pc := 16) S hw 17 11 xg_17 xt_17 h2 e3 dS_landOldest_16 ?_
      refine lv_aload_n (pc := 17) hx hb dS_landOldest_17 rfl (lv_at hl 0 rfl) ?_
      refine j_get (pc := 18) (v := .ref (ad 18)) S hw inS 2 2 3 xg_2 rfl (by decide) k_88 rfl dS_landOldest_18 ?_
      refine lv_iload_n (pc := 21) hx hb dS_landOldest_21 rfl (lv_at hl 2 rfl) ?_
      have hg := jrd_e hf; clear hf; obtain ⟨h5, v4, e6, hf⟩ := hg
      refine j_iald (pc := 22) S hw 18 12 xg_18 xt_18 h5 e6 dS_landOldest_22 ?_
      have hg := jwr_e hf; clear hf; obtain ⟨h8, σ7, e9, hf⟩ := hg
      refine j_iast (pc := 23) (ws' := xC ca ad σ7) S hw 16 10 xg_16 xt_16 h8 (by rw [e9]; exact xs_16) dS_landOldest_23 (fun H locs hw => ?_)
      refine lv_iinc (pc := 24) (v := (x2 + 1)) (k := 2) (lv' := [(2, .int (x2 + 1)), (0, .ref (ad 2)), (1, .int x1)]) hx hb dS_landOldest_24 hl rfl (j_inc _ (by decide)) (by decide) rfl (fun ls hl => ?_)
      refine lv_goto (pc := 27) (tgt := 2) hx hb dS_landOldest_27 (by decide) ?_
      exact ih σ7 (x2 + 1) _ _ _ (lv_sub hl [1, 2, 0] rfl) hw hf
set_option maxHeartbeats 4000000 in
set_option maxRecDepth 100000 in
theorem bS_landOldest {p : Program} {l : Launch} {e : Env} {s : State} {m : MethodId} {args : Array Value} {below : List Frame} {meth : Method} {c : Code} {D : va_G} {ca : Nat → ClassId} {ad : Nat → Nat} {A : Nat → Prop} (hA : ∀ q, s.heap.size ≤ q → A q) (S : CallFix p m c cS_landOldest 3 s args jall RS) (hN : xN A s) (hr : meth.sig.returnType = none) (hlk : meth.locks = false) (out : JS) (σ : JS) (x1 : Int32) (ls : Array Slot) (hl : lv_has ls 3 [(0, .ref (ad 2)), (1, .int x1)]) (hw : jH D (xT ca) (xC ca ad σ) A s.heap s.heap [] s) (hf : mS_landOldest σ x1 = some out) : W p l e (headSpec wsS_landOldest rmS_landOldest).room s m args below meth c s.heap [] 0 0 (MQ below (jQv D (xT ca) (xC ca ad) A out) args s 0 0 A) (F0 m 0 ls []) := by
  have hx := S.1
  have hb := S.2.1
  unfold mS_landOldest at hf
  refine lv_iconst (pc := 0) (v := (0 : Int32)) hx hb dS_landOldest_0 (by decide) ?_
  refine lv_istore_n (pc := 1) (lv' := [(2, .int (0 : Int32)), (0, .ref (ad 2)), (1, .int x1)]) hx hb dS_landOldest_1 rfl hl (by decide) rfl (fun ls hl => ?_)
  refine wmS_landOldest_L2g hA S hN hr hlk out _ x1 (fun σ10 z11 ls H locs hl hw hf => ?_) 999 σ (0 : Int32) _ _ _ (lv_sub hl [1, 2, 0] rfl) hw hf
  try dsimp only at hf
  refine lv_aload_n (pc := 30) hx hb dS_landOldest_30 rfl (lv_at hl 0 rfl) ?_
  refine lv_dup (pc := 31) hx hb dS_landOldest_31 rfl ?_
  refine j_get (pc := 32) (v := .int (σ10 100 2)) S hw inS 2 2 4 xg_2 rfl (by decide) k_89 rfl dS_landOldest_32 ?_
  refine lv_iload_n (pc := 35) hx hb dS_landOldest_35 rfl (lv_at hl 1 rfl) ?_
  refine lv_isub (pc := 36) hx hb dS_landOldest_36 ?_
  have hg := jst_e hf; clear hf; obtain ⟨σ12, e13, hf⟩ := hg
  refine j_put (pc := 37) (v := .int ((σ10 100 2) - x1)) (ws' := xC ca ad σ12) S hw inS tyS tyS_ok nmS 2 2 4 xg_2 rfl (by decide) k_89 rfl rfl rfl (Nat.le_of_ble_eq_true rfl) (by rw [e13]; exact xp_2) dS_landOldest_37 (fun H locs hw => ?_)
  refine lv_aload_n (pc := 40) hx hb dS_landOldest_40 rfl (lv_at hl 0 rfl) ?_
  refine j_get (pc := 41) (v := .ref (ad 17)) S hw inS 2 2 2 xg_2 rfl (by decide) k_87 rfl dS_landOldest_41 ?_
  refine lv_iload_n (pc := 44) hx hb dS_landOldest_44 rfl (lv_at hl 1 rfl) ?_
  refine lv_aload_n (pc := 45) hx hb dS_landOldest_45 rfl (lv_at hl 0 rfl) ?_
  refine j_get (pc := 46) (v := .ref (ad 17)) S hw inS 2 2 2 xg_2 rfl (by decide) k_87 rfl dS_landOldest_46 ?_
  refine lv_iconst (pc := 49) (v := (0 : Int32)) hx hb dS_landOldest_49 (by decide) ?_
  refine lv_aload_n (pc := 50) hx hb dS_landOldest_50 rfl (lv_at hl 0 rfl) ?_
  refine j_get (pc := 51) (v := .int (σ12 100 2)) S hw inS 2 2 4 xg_2 rfl (by decide) k_89 rfl dS_landOldest_51 ?_
  have hg := jcp_e hf; clear hf; obtain ⟨h16, h17, h18, h19, h20, σ14, e15, hf⟩ := hg
  refine j_copyi (pc := 54) (rest := []) (ws' := xC ca ad σ14) S hw hl.1 k_414 k_416 k_415 k_14 17 17 11 11 xg_17 xg_17 xt_17 xt_17 h16 h17 h18 h19 h20 (by rw [e15]; exact xa_17) (Nat.le_of_ble_eq_true rfl) (Nat.le_of_ble_eq_true rfl) dS_landOldest_54 (fun H locs hw => ?_)
  refine lv_aload_n (pc := 57) hx hb dS_landOldest_57 rfl (lv_at hl 0 rfl) ?_
  refine j_get (pc := 58) (v := .ref (ad 18)) S hw inS 2 2 3 xg_2 rfl (by decide) k_88 rfl dS_landOldest_58 ?_
  refine lv_iload_n (pc := 61) hx hb dS_landOldest_61 rfl (lv_at hl 1 rfl) ?_
  refine lv_aload_n (pc := 62) hx hb dS_landOldest_62 rfl (lv_at hl 0 rfl) ?_
  refine j_get (pc := 63) (v := .ref (ad 18)) S hw inS 2 2 3 xg_2 rfl (by decide) k_88 rfl dS_landOldest_63 ?_
  refine lv_iconst (pc := 66) (v := (0 : Int32)) hx hb dS_landOldest_66 (by decide) ?_
  refine lv_aload_n (pc := 67) hx hb dS_landOldest_67 rfl (lv_at hl 0 rfl) ?_
  refine j_get (pc := 68) (v := .int (σ14 100 2)) S hw inS 2 2 4 xg_2 rfl (by decide) k_89 rfl dS_landOldest_68 ?_
  have hg := jcp_e hf; clear hf; obtain ⟨h23, h24, h25, h26, h27, σ21, e22, hf⟩ := hg
  refine j_copyi (pc := 71) (rest := []) (ws' := xC ca ad σ21) S hw hl.1 k_414 k_416 k_415 k_14 18 18 12 12 xg_18 xg_18 xt_18 xt_18 h23 h24 h25 h26 h27 (by rw [e22]; exact xa_18) (Nat.le_of_ble_eq_true rfl) (Nat.le_of_ble_eq_true rfl) dS_landOldest_71 (fun H locs hw => ?_)
  obtain rfl := jsm hf
  exact j_vret (pc := 74) S hw hr hlk dS_landOldest_74
set_option maxHeartbeats 4000000 in
set_option maxRecDepth 100000 in
theorem kS_landOldest (l : Launch) (D : va_G) (ca : Nat → ClassId) (ad : Nat → Nat) (sz : Nat) (σ : JS) (x1 : Int32) (out : JS) (hf : mS_landOldest σ x1 = some out) : Met l yS_landOldest wsS_landOldest rmS_landOldest (jPre D (xT ca) (xC ca ad σ) (xN (va_A (xC ca ad σ) sz)) sz [.ref (ad 2), .int x1]) (jQv D (xT ca) (xC ca ad) (va_A (xC ca ad σ) sz) out) 0 0 (va_A (xC ca ad σ) sz) := by
  refine Met.ofW (cc := cS_landOldest) (maxL := 3) (ret := none) (by decide) rfl ?_
  intro p e s m args below meth c s₁ B hml hv
  obtain ⟨rfl, hsz, hP, hK, hD0, hN⟩ := hv
  subst hsz
  have hl := lv_entry [.ref (ad 2), .int x1] (n := 3) (Nat.le_of_ble_eq_true rfl)
  rw [lg_entry_eq]
  generalize (lg_sl [.ref (ad 2), .int x1] ++ List.replicate (3 - (lg_sl [.ref (ad 2), .int x1]).length) Slot.unset).toArray = ls at hl ⊢
  exact bS_landOldest (fun q h => Or.inr h) ⟨B.exec, B.bytes, hml, findClass_of_methodNamed B.named, fun w h => atoms_spec (ws := wsS_landOldest) B.pre w (List.mem_cons_of_mem _ h)⟩ hN B.returns B.notSynchronized out σ x1 ls hl ⟨hP, hD0.self, va_S.rf, hK⟩ hf

def rmS_write : Room := { frames := 2, cells := 0, slots := 0, locals := 42 }
def mS_write_J21 (σ : JS) (x1 : Int32) (x2 : Int32) : Option (JS) :=
  jwr σ 17 24 (σ 100 2) x1 fun σ4 =>
  jwr σ4 18 24 (σ4 100 2) x2 fun σ7 =>
  jst (jw2 σ7 100 2 ((σ7 100 2) + (1 : Int32))) fun σ10 =>
  some σ10
def mS_write (σ : JS) (x1 : Int32) (x2 : Int32) : Option (JS) :=
  jwr σ 15 24 x1 x2 fun σ1 =>
  if (σ1 100 2) = (24 : Int32) then
  (jbn (mS_landOldest σ1 (1 : Int32)) fun q12 =>
  mS_write_J21 q12 x1 x2)
  else
  (mS_write_J21 σ1 x1 x2)
set_option maxHeartbeats 4000000 in
set_option maxRecDepth 100000 in
theorem wmS_write_J21g {p : Program} {l : Launch} {e : Env} {s : State} {m : MethodId} {args : Array Value} {below : List Frame} {meth : Method} {c : Code} {D : va_G} {ca : Nat → ClassId} {ad : Nat → Nat} {A : Nat → Prop} (hA : ∀ q, s.heap.size ≤ q → A q) (S : CallFix p m c cS_write 3 s args jall RS) (hN : xN A s) (hr : meth.sig.returnType = none) (hlk : meth.locks = false) (out : JS) (σ : JS) (x1 : Int32) (x2 : Int32) (ls : Array Slot) (H : Heap) (locs : List Loc) (hl : lv_has ls 3 [(0, .ref (ad 2)), (1, .int x1), (2, .int x2)]) (hw : jH D (xT ca) (xC ca ad σ) A s.heap H locs s) (hf : mS_write_J21 σ x1 x2 = some out) : W p l e (headSpec wsS_write rmS_write).room s m args below meth c H locs 0 0 (MQ below (jQv D (xT ca) (xC ca ad) A out) args s 0 0 A) (F0 m 21 ls []) := by
  have hx := S.1
  have hb := S.2.1
  unfold mS_write_J21 at hf
  refine lv_aload_n (pc := 21) hx hb dS_write_21 rfl (lv_at hl 0 rfl) ?_
  refine j_get (pc := 22) (v := .ref (ad 17)) S hw inS 2 2 2 xg_2 rfl (by decide) k_87 rfl dS_write_22 ?_
  refine lv_aload_n (pc := 25) hx hb dS_write_25 rfl (lv_at hl 0 rfl) ?_
  refine j_get (pc := 26) (v := .int (σ 100 2)) S hw inS 2 2 4 xg_2 rfl (by decide) k_89 rfl dS_write_26 ?_
  refine lv_iload_n (pc := 29) hx hb dS_write_29 rfl (lv_at hl 1 rfl) ?_
  have hg := jwr_e hf; clear hf; obtain ⟨h5, σ4, e6, hf⟩ := hg
  refine j_iast (pc := 30) (ws' := xC ca ad σ4) S hw 17 11 xg_17 xt_17 h5 (by rw [e6]; exact xs_17) dS_write_30 (fun H locs hw => ?_)
  refine lv_aload_n (pc := 31) hx hb dS_write_31 rfl (lv_at hl 0 rfl) ?_
  refine j_get (pc := 32) (v := .ref (ad 18)) S hw inS 2 2 3 xg_2 rfl (by decide) k_88 rfl dS_write_32 ?_
  refine lv_aload_n (pc := 35) hx hb dS_write_35 rfl (lv_at hl 0 rfl) ?_
  refine j_get (pc := 36) (v := .int (σ4 100 2)) S hw inS 2 2 4 xg_2 rfl (by decide) k_89 rfl dS_write_36 ?_
  refine lv_iload_n (pc := 39) hx hb dS_write_39 rfl (lv_at hl 2 rfl) ?_
  have hg := jwr_e hf; clear hf; obtain ⟨h8, σ7, e9, hf⟩ := hg
  refine j_iast (pc := 40) (ws' := xC ca ad σ7) S hw 18 12 xg_18 xt_18 h8 (by rw [e9]; exact xs_18) dS_write_40 (fun H locs hw => ?_)
  refine lv_aload_n (pc := 41) hx hb dS_write_41 rfl (lv_at hl 0 rfl) ?_
  refine lv_dup (pc := 42) hx hb dS_write_42 rfl ?_
  refine j_get (pc := 43) (v := .int (σ7 100 2)) S hw inS 2 2 4 xg_2 rfl (by decide) k_89 rfl dS_write_43 ?_
  refine lv_iconst (pc := 46) (v := (1 : Int32)) hx hb dS_write_46 (by decide) ?_
  refine lv_iadd (pc := 47) hx hb dS_write_47 ?_
  have hg := jst_e hf; clear hf; obtain ⟨σ10, e11, hf⟩ := hg
  refine j_put (pc := 48) (v := .int ((σ7 100 2) + (1 : Int32))) (ws' := xC ca ad σ10) S hw inS tyS tyS_ok nmS 2 2 4 xg_2 rfl (by decide) k_89 rfl rfl rfl (Nat.le_of_ble_eq_true rfl) (by rw [e11]; exact xp_2) dS_write_48 (fun H locs hw => ?_)
  obtain rfl := jsm hf
  exact j_vret (pc := 51) S hw hr hlk dS_write_51
set_option maxHeartbeats 4000000 in
set_option maxRecDepth 100000 in
theorem bS_write {p : Program} {l : Launch} {e : Env} {s : State} {m : MethodId} {args : Array Value} {below : List Frame} {meth : Method} {c : Code} {D : va_G} {ca : Nat → ClassId} {ad : Nat → Nat} {A : Nat → Prop} (hA : ∀ q, s.heap.size ≤ q → A q) (S : CallFix p m c cS_write 3 s args jall RS) (hN : xN A s) (hr : meth.sig.returnType = none) (hlk : meth.locks = false) (out : JS) (σ : JS) (x1 : Int32) (x2 : Int32) (ls : Array Slot) (hl : lv_has ls 3 [(0, .ref (ad 2)), (1, .int x1), (2, .int x2)]) (hw : jH D (xT ca) (xC ca ad σ) A s.heap s.heap [] s) (hf : mS_write σ x1 x2 = some out) : W p l e (headSpec wsS_write rmS_write).room s m args below meth c s.heap [] 0 0 (MQ below (jQv D (xT ca) (xC ca ad) A out) args s 0 0 A) (F0 m 0 ls []) := by
  have hx := S.1
  have hb := S.2.1
  unfold mS_write at hf
  refine lv_aload_n (pc := 0) hx hb dS_write_0 rfl (lv_at hl 0 rfl) ?_
  refine j_get (pc := 1) (v := .ref (ad 15)) S hw inS 2 2 0 xg_2 rfl (by decide) k_83 rfl dS_write_1 ?_
  refine lv_iload_n (pc := 4) hx hb dS_write_4 rfl (lv_at hl 1 rfl) ?_
  refine lv_iload_n (pc := 5) hx hb dS_write_5 rfl (lv_at hl 2 rfl) ?_
  have hg := jwr_e hf; clear hf; obtain ⟨h2, σ1, e3, hf⟩ := hg
  refine j_iast (pc := 6) (ws' := xC ca ad σ1) S hw 15 9 xg_15 xt_15 h2 (by rw [e3]; exact xs_15) dS_write_6 (fun H locs hw => ?_)
  refine lv_aload_n (pc := 7) hx hb dS_write_7 rfl (lv_at hl 0 rfl) ?_
  refine j_get (pc := 8) (v := .int (σ1 100 2)) S hw inS 2 2 4 xg_2 rfl (by decide) k_89 rfl dS_write_8 ?_
  refine lv_bipush (pc := 11) (v := (24 : Int32)) hx hb dS_write_11 (by decide) ?_
  refine lv_icmp_ne (pc := 13) (tgt := 21) hx hb dS_write_13 (by decide) (fun hc => ?_) (fun hc => ?_)
  · replace hf := jif hf hc
    exact wmS_write_J21g hA S hN hr hlk out σ1 x1 x2 _ _ _ (lv_sub hl [0, 1, 2] rfl) hw hf
  · replace hf := jit hf hc
    refine lv_aload_n (pc := 16) hx hb dS_write_16 rfl (lv_at hl 0 rfl) ?_
    refine lv_iconst (pc := 17) (v := (1 : Int32)) hx hb dS_write_17 (by decide) ?_
    have hg := jbn_e hf; clear hf; obtain ⟨q12, h13, hf⟩ := hg
    refine j_callv (pc := 18) (C := xC ca ad) (σ' := q12) hw hA (va_runV (As := [.int (1 : Int32)]) (rest := []) S (kS_landOldest l D ca ad _ σ1 (1 : Int32) q12 h13) (cwV 1 S.2.2.2.2 (jgV k_410 k_411 k_412 k_3 k_413) rfl rfl rfl (by decide +kernel) ⟨Nat.le_of_ble_eq_true rfl, Nat.le_of_ble_eq_true rfl⟩) (j_preV (As := [.int (1 : Int32)]) hw xN_b (xN_to hN hw hA) rfl xg_2) rfl rfl hl.1 rfl (lv_room (Nat.le_of_ble_eq_true rfl)) dS_write_18 ⟨Nat.le_of_ble_eq_true rfl, Nat.le_of_ble_eq_true rfl⟩) (fun H locs hw => ?_)
    exact wmS_write_J21g hA S hN hr hlk out q12 x1 x2 _ _ _ (lv_sub hl [0, 1, 2] rfl) hw hf
set_option maxHeartbeats 4000000 in
set_option maxRecDepth 100000 in
theorem kS_write (l : Launch) (D : va_G) (ca : Nat → ClassId) (ad : Nat → Nat) (sz : Nat) (σ : JS) (x1 : Int32) (x2 : Int32) (out : JS) (hf : mS_write σ x1 x2 = some out) : Met l yS_write wsS_write rmS_write (jPre D (xT ca) (xC ca ad σ) (xN (va_A (xC ca ad σ) sz)) sz [.ref (ad 2), .int x1, .int x2]) (jQv D (xT ca) (xC ca ad) (va_A (xC ca ad σ) sz) out) 0 0 (va_A (xC ca ad σ) sz) := by
  refine Met.ofW (cc := cS_write) (maxL := 3) (ret := none) (by decide) rfl ?_
  intro p e s m args below meth c s₁ B hml hv
  obtain ⟨rfl, hsz, hP, hK, hD0, hN⟩ := hv
  subst hsz
  have hl := lv_entry [.ref (ad 2), .int x1, .int x2] (n := 3) (Nat.le_of_ble_eq_true rfl)
  rw [lg_entry_eq]
  generalize (lg_sl [.ref (ad 2), .int x1, .int x2] ++ List.replicate (3 - (lg_sl [.ref (ad 2), .int x1, .int x2]).length) Slot.unset).toArray = ls at hl ⊢
  exact bS_write (fun q h => Or.inr h) ⟨B.exec, B.bytes, hml, findClass_of_methodNamed B.named, fun w h => atoms_spec (ws := wsS_write) B.pre w (List.mem_cons_of_mem _ h)⟩ hN B.returns B.notSynchronized out σ x1 x2 ls hl ⟨hP, hD0.self, va_S.rf, hK⟩ hf

def rmH_writeChange : Room := { frames := 3, cells := 0, slots := 0, locals := 64 }
def mH_writeChange (σ : JS) (x1 : Int32) (x2 : Int32) (x3 : Int32) : Option (JS) :=
  jrd σ 15 24 x2 fun v1 =>
  jbn (mJ_addChange σ x1 x2 v1 x3) fun q4 =>
  jbn (mS_write q4 x2 x3) fun q6 =>
  if x1 = (3 : Int32) then
  (some q6)
  else
  (jbn (mH_fileOf q6 x2) fun q8 =>
  jwr q6 27 3 q8 (-1 : Int32) fun σ10 =>
  some σ10)
set_option maxHeartbeats 4000000 in
set_option maxRecDepth 100000 in
theorem bH_writeChange {p : Program} {l : Launch} {e : Env} {s : State} {m : MethodId} {args : Array Value} {below : List Frame} {meth : Method} {c : Code} {D : va_G} {ca : Nat → ClassId} {ad : Nat → Nat} {A : Nat → Prop} (hA : ∀ q, s.heap.size ≤ q → A q) (S : CallFix p m c cH_writeChange 4 s args jall RH) (hN : xN A s) (hr : meth.sig.returnType = none) (hlk : meth.locks = false) (out : JS) (σ : JS) (x1 : Int32) (x2 : Int32) (x3 : Int32) (ls : Array Slot) (hl : lv_has ls 4 [(0, .ref (ad 0)), (1, .int x1), (2, .int x2), (3, .int x3)]) (hw : jH D (xT ca) (xC ca ad σ) A s.heap s.heap [] s) (hf : mH_writeChange σ x1 x2 x3 = some out) : W p l e (headSpec wsH_writeChange rmH_writeChange).room s m args below meth c s.heap [] 0 0 (MQ below (jQv D (xT ca) (xC ca ad) A out) args s 0 0 A) (F0 m 0 ls []) := by
  have hx := S.1
  have hb := S.2.1
  unfold mH_writeChange at hf
  refine lv_aload_n (pc := 0) hx hb dH_writeChange_0 rfl (lv_at hl 0 rfl) ?_
  refine j_get (pc := 1) (v := .ref (ad 1)) S hw inH 0 0 0 xg_0 rfl (by decide) k_162 rfl dH_writeChange_1 ?_
  refine lv_iload_n (pc := 4) hx hb dH_writeChange_4 rfl (lv_at hl 1 rfl) ?_
  refine lv_iload_n (pc := 5) hx hb dH_writeChange_5 rfl (lv_at hl 2 rfl) ?_
  refine lv_aload_n (pc := 6) hx hb dH_writeChange_6 rfl (lv_at hl 0 rfl) ?_
  refine j_get (pc := 7) (v := .ref (ad 2)) S hw inH 0 0 1 xg_0 rfl (by decide) k_163 rfl dH_writeChange_7 ?_
  refine j_get (pc := 10) (v := .ref (ad 15)) S hw inS 2 2 0 xg_2 rfl (by decide) k_84 rfl dH_writeChange_10 ?_
  refine lv_iload_n (pc := 13) hx hb dH_writeChange_13 rfl (lv_at hl 2 rfl) ?_
  have hg := jrd_e hf; clear hf; obtain ⟨h2, v1, e3, hf⟩ := hg
  refine j_iald (pc := 14) S hw 15 9 xg_15 xt_15 h2 e3 dH_writeChange_14 ?_
  refine lv_iload_n (pc := 15) hx hb dH_writeChange_15 rfl (lv_at hl 3 rfl) ?_
  have hg := jbn_e hf; clear hf; obtain ⟨q4, h5, hf⟩ := hg
  refine j_callv (pc := 16) (C := xC ca ad) (σ' := q4) hw hA (va_runV (As := [.int x1, .int x2, .int v1, .int x3]) (rest := []) S (kJ_addChange l D ca ad _ σ x1 x2 v1 x3 q4 h5) (cwV 4 S.2.2.2.2 (jgV k_397 k_398 k_399 k_2 k_400) rfl rfl rfl (by decide +kernel) ⟨Nat.le_of_ble_eq_true rfl, Nat.le_of_ble_eq_true rfl⟩) (j_preV (As := [.int x1, .int x2, .int v1, .int x3]) hw xN_b (xN_to hN hw hA) rfl xg_1) rfl rfl hl.1 rfl (lv_room (Nat.le_of_ble_eq_true rfl)) dH_writeChange_16 ⟨Nat.le_of_ble_eq_true rfl, Nat.le_of_ble_eq_true rfl⟩) (fun H locs hw => ?_)
  refine lv_aload_n (pc := 19) hx hb dH_writeChange_19 rfl (lv_at hl 0 rfl) ?_
  refine j_get (pc := 20) (v := .ref (ad 2)) S hw inH 0 0 1 xg_0 rfl (by decide) k_163 rfl dH_writeChange_20 ?_
  refine lv_iload_n (pc := 23) hx hb dH_writeChange_23 rfl (lv_at hl 2 rfl) ?_
  refine lv_iload_n (pc := 24) hx hb dH_writeChange_24 rfl (lv_at hl 3 rfl) ?_
  have hg := jbn_e hf; clear hf; obtain ⟨q6, h7, hf⟩ := hg
  refine j_callv (pc := 25) (C := xC ca ad) (σ' := q6) hw hA (va_runV (As := [.int x2, .int x3]) (rest := []) S (kS_write l D ca ad _ q4 x2 x3 q6 h7) (cwV 2 S.2.2.2.2 (jgV k_406 k_407 k_408 k_3 k_409) rfl rfl rfl (by decide +kernel) ⟨Nat.le_of_ble_eq_true rfl, Nat.le_of_ble_eq_true rfl⟩) (j_preV (As := [.int x2, .int x3]) hw xN_b (xN_to hN hw hA) rfl xg_2) rfl rfl hl.1 rfl (lv_room (Nat.le_of_ble_eq_true rfl)) dH_writeChange_25 ⟨Nat.le_of_ble_eq_true rfl, Nat.le_of_ble_eq_true rfl⟩) (fun H locs hw => ?_)
  refine lv_iload_n (pc := 28) hx hb dH_writeChange_28 rfl (lv_at hl 1 rfl) ?_
  refine lv_iconst (pc := 29) (v := (3 : Int32)) hx hb dH_writeChange_29 (by decide) ?_
  refine lv_icmp_eq (pc := 30) (tgt := 43) hx hb dH_writeChange_30 (by decide) (fun hc => ?_) (fun hc => ?_)
  · replace hf := jit hf hc
    obtain rfl := jsm hf
    exact j_vret (pc := 43) S hw hr hlk dH_writeChange_43
  · replace hf := jif hf hc
    refine lv_aload_n (pc := 33) hx hb dH_writeChange_33 rfl (lv_at hl 0 rfl) ?_
    refine j_get (pc := 34) (v := .ref (ad 27)) S hw inH 0 0 6 xg_0 rfl (by decide) k_168 rfl dH_writeChange_34 ?_
    refine lv_iload_n (pc := 37) hx hb dH_writeChange_37 rfl (lv_at hl 2 rfl) ?_
    have hg := jbn_e hf; clear hf; obtain ⟨q8, h9, hf⟩ := hg
    refine j_cpi (pc := 38) (v := q8) (va_runS (As := [.int x2]) (rest := [.ref (ad 27)]) S (kH_fileOf l D ca ad _ q6 x2 q8 h9) (cwS 1 S.2.2.2.2 (jgS k_251 k_252 k_1 k_253) rfl rfl rfl (by decide +kernel) ⟨Nat.le_of_ble_eq_true rfl, Nat.le_of_ble_eq_true rfl⟩) (j_preS hw xN_b (xN_to hN hw hA)) rfl rfl hl.1 rfl (lv_room (Nat.le_of_ble_eq_true rfl)) dH_writeChange_38 ⟨Nat.le_of_ble_eq_true rfl, Nat.le_of_ble_eq_true rfl⟩) ?_
    refine lv_iconst (pc := 41) (v := (-1 : Int32)) hx hb dH_writeChange_41 (by decide) ?_
    have hg := jwr_e hf; clear hf; obtain ⟨h11, σ10, e12, hf⟩ := hg
    refine j_iast (pc := 42) (ws' := xC ca ad σ10) S hw 27 21 xg_27 xt_27 h11 (by rw [e12]; exact xs_27) dH_writeChange_42 (fun H locs hw => ?_)
    obtain rfl := jsm hf
    exact j_vret (pc := 43) S hw hr hlk dH_writeChange_43
set_option maxHeartbeats 4000000 in
set_option maxRecDepth 100000 in
theorem kH_writeChange (l : Launch) (D : va_G) (ca : Nat → ClassId) (ad : Nat → Nat) (sz : Nat) (σ : JS) (x1 : Int32) (x2 : Int32) (x3 : Int32) (out : JS) (hf : mH_writeChange σ x1 x2 x3 = some out) : Met l yH_writeChange wsH_writeChange rmH_writeChange (jPre D (xT ca) (xC ca ad σ) (xN (va_A (xC ca ad σ) sz)) sz [.ref (ad 0), .int x1, .int x2, .int x3]) (jQv D (xT ca) (xC ca ad) (va_A (xC ca ad σ) sz) out) 0 0 (va_A (xC ca ad σ) sz) := by
  refine Met.ofW (cc := cH_writeChange) (maxL := 4) (ret := none) (by decide) rfl ?_
  intro p e s m args below meth c s₁ B hml hv
  obtain ⟨rfl, hsz, hP, hK, hD0, hN⟩ := hv
  subst hsz
  have hl := lv_entry [.ref (ad 0), .int x1, .int x2, .int x3] (n := 4) (Nat.le_of_ble_eq_true rfl)
  rw [lg_entry_eq]
  generalize (lg_sl [.ref (ad 0), .int x1, .int x2, .int x3] ++ List.replicate (4 - (lg_sl [.ref (ad 0), .int x1, .int x2, .int x3]).length) Slot.unset).toArray = ls at hl ⊢
  exact bH_writeChange (fun q h => Or.inr h) ⟨B.exec, B.bytes, hml, findClass_of_methodNamed B.named, fun w h => atoms_spec (ws := wsH_writeChange) B.pre w (List.mem_cons_of_mem _ h)⟩ hN B.returns B.notSynchronized out σ x1 x2 x3 ls hl ⟨hP, hD0.self, va_S.rf, hK⟩ hf

def rmnH_change : Room := { frames := 6, cells := 0, slots := 0, locals := 87 }
def rmxH_change : Room := { frames := 6, cells := 1, slots := 6, locals := 87 }
def mH_change (σ : JS) (x1 : Int32) (x2 : Int32) (x3 : Int32) (x4 : Int32) : Option (Nat × Int32 × JS) :=
  jbn (mH_isJob σ x1) fun q1 =>
  if q1 = 0 then
  (some (1, 0, σ))
  else
  (jbn (mH_isRecord σ x2 x3) fun q3 =>
  if q3 = 0 then
  (some (1, 0, σ))
  else
  (jbn (mH_cellOf σ x2 x3) fun q5 =>
  if (σ 100 8) = 0 then
  (some (2, 0, σ))
  else
  (jbn (mJ_isLockedByAnother σ x1 q5) fun q7 =>
  if q7 = 0 then
  (jbn (mJ_refusesChangeBy σ x1) fun q9 =>
  if q9 = 0 then
  (jbn (mH_writeChange σ x1 q5 x4) fun q11 =>
  some (0, (q11 100 0), q11))
  else
  (some (2, 0, σ)))
  else
  (some (2, 0, σ)))))
set_option maxHeartbeats 4000000 in
set_option maxRecDepth 100000 in
theorem bnH_change {p : Program} {l : Launch} {e : Env} {s : State} {m : MethodId} {args : Array Value} {below : List Frame} {meth : Method} {c : Code} {D : va_G} {ca : Nat → ClassId} {ad : Nat → Nat} {A : Nat → Prop} (hA : ∀ q, s.heap.size ≤ q → A q) (S : CallFix p m c cH_change 6 s args jall RH) (hN : xN A s) (hr : meth.sig.returnType = some .int) (hlk : meth.locks = false) (vo : Int32) (σo : JS) (σ : JS) (x1 : Int32) (x2 : Int32) (x3 : Int32) (x4 : Int32) (ls : Array Slot) (hl : lv_has ls 6 [(0, .ref (ad 0)), (1, .int x1), (2, .int x2), (3, .int x3), (4, .int x4)]) (hw : jH D (xT ca) (xC ca ad σ) A s.heap s.heap [] s) (hf : mH_change σ x1 x2 x3 x4 = some (0, vo, σo)) : W p l e (headSpec wsH_change rmnH_change).room s m args below meth c s.heap [] 0 0 (MQ below (jQi D (xT ca) (xC ca ad) A vo σo) args s 0 0 A) (F0 m 0 ls []) := by
  have hx := S.1
  have hb := S.2.1
  unfold mH_change at hf
  refine lv_aload_n (pc := 0) hx hb dH_change_0 rfl (lv_at hl 0 rfl) ?_
  refine lv_iload_n (pc := 1) hx hb dH_change_1 rfl (lv_at hl 1 rfl) ?_
  have hg := jbn_e hf; clear hf; obtain ⟨q1, h2, hf⟩ := hg
  refine j_cpi (pc := 2) (v := q1) (va_runV (As := [.int x1]) (rest := []) S (kH_isJob l D ca ad _ σ x1 q1 h2) (cwV 1 S.2.2.2.2 (jgV k_362 k_364 ks_5 k_1 k_365) rfl rfl rfl (by decide +kernel) ⟨Nat.le_of_ble_eq_true rfl, Nat.le_of_ble_eq_true rfl⟩) (j_preV (As := [.int x1]) hw xN_b (xN_to hN hw hA) rfl xg_0) rfl rfl hl.1 rfl (lv_room (Nat.le_of_ble_eq_true rfl)) dH_change_2 ⟨Nat.le_of_ble_eq_true rfl, Nat.le_of_ble_eq_true rfl⟩) ?_
  refine lv_if_eq (pc := 5) (tgt := 17) hx hb dH_change_5 (by decide) (fun hc => ?_) (fun hc => ?_)
  · replace hf := jit hf hc
    exact (jo2 hf).elim
  · replace hf := jif hf hc
    refine lv_aload_n (pc := 8) hx hb dH_change_8 rfl (lv_at hl 0 rfl) ?_
    refine lv_iload_n (pc := 9) hx hb dH_change_9 rfl (lv_at hl 2 rfl) ?_
    refine lv_iload_n (pc := 10) hx hb dH_change_10 rfl (lv_at hl 3 rfl) ?_
    have hg := jbn_e hf; clear hf; obtain ⟨q3, h4, hf⟩ := hg
    refine j_cpi (pc := 11) (v := q3) (va_runV (As := [.int x2, .int x3]) (rest := []) S (kH_isRecord l D ca ad _ σ x2 x3 q3 h4) (cwV 2 S.2.2.2.2 (jgV k_203 k_205 ks_6 k_1 k_206) rfl rfl rfl (by decide +kernel) ⟨Nat.le_of_ble_eq_true rfl, Nat.le_of_ble_eq_true rfl⟩) (j_preV (As := [.int x2, .int x3]) hw xN_b (xN_to hN hw hA) rfl xg_0) rfl rfl hl.1 rfl (lv_room (Nat.le_of_ble_eq_true rfl)) dH_change_11 ⟨Nat.le_of_ble_eq_true rfl, Nat.le_of_ble_eq_true rfl⟩) ?_
    refine lv_if_ne (pc := 14) (tgt := 25) hx hb dH_change_14 (by decide) (fun hc => ?_) (fun hc => ?_)
    · replace hf := jif hf hc
      refine lv_iload_n (pc := 25) hx hb dH_change_25 rfl (lv_at hl 2 rfl) ?_
      refine lv_iload_n (pc := 26) hx hb dH_change_26 rfl (lv_at hl 3 rfl) ?_
      have hg := jbn_e hf; clear hf; obtain ⟨q5, h6, hf⟩ := hg
      refine j_cpi (pc := 27) (v := q5) (va_runS (As := [.int x2, .int x3]) (rest := []) S (kH_cellOf l D ca ad _ σ x2 x3 q5 h6) (cwS 2 S.2.2.2.2 (jgS k_211 k_212 k_1 k_213) rfl rfl rfl (by decide +kernel) ⟨Nat.le_of_ble_eq_true rfl, Nat.le_of_ble_eq_true rfl⟩) (j_preS hw xN_b (xN_to hN hw hA)) rfl rfl hl.1 rfl (lv_room (Nat.le_of_ble_eq_true rfl)) dH_change_27 ⟨Nat.le_of_ble_eq_true rfl, Nat.le_of_ble_eq_true rfl⟩) ?_
      refine lv_istore (pc := 30) (lv' := [(5, .int q5), (0, .ref (ad 0)), (1, .int x1), (2, .int x2), (3, .int x3), (4, .int x4)]) hx hb dH_change_30 hl (by decide) rfl (fun ls hl => ?_)
      refine lv_aload_n (pc := 32) hx hb dH_change_32 rfl (lv_at hl 1 rfl) ?_
      refine j_get (pc := 33) (v := .int (σ 100 8)) S hw inH 0 0 11 xg_0 rfl (by decide) k_173 rfl dH_change_33 ?_
      refine lv_if_eq (pc := 36) (tgt := 63) hx hb dH_change_36 (by decide) (fun hc => ?_) (fun hc => ?_)
      · replace hf := jit hf hc
        exact (jo2 hf).elim
      · replace hf := jif hf hc
        refine lv_aload_n (pc := 39) hx hb dH_change_39 rfl (lv_at hl 1 rfl) ?_
        refine j_get (pc := 40) (v := .ref (ad 1)) S hw inH 0 0 0 xg_0 rfl (by decide) k_162 rfl dH_change_40 ?_
        refine lv_iload_n (pc := 43) hx hb dH_change_43 rfl (lv_at hl 2 rfl) ?_
        refine lv_iload (pc := 44) hx hb dH_change_44 (lv_at hl 0 rfl) ?_
        have hg := jbn_e hf; clear hf; obtain ⟨q7, h8, hf⟩ := hg
        refine j_cpi (pc := 46) (v := q7) (va_runV (As := [.int x1, .int q5]) (rest := []) S (kJ_isLockedByAnother l D ca ad _ σ x1 q5 q7 h8) (cwV 2 S.2.2.2.2 (jgV k_366 k_367 k_368 k_2 k_369) rfl rfl rfl (by decide +kernel) ⟨Nat.le_of_ble_eq_true rfl, Nat.le_of_ble_eq_true rfl⟩) (j_preV (As := [.int x1, .int q5]) hw xN_b (xN_to hN hw hA) rfl xg_1) rfl rfl hl.1 rfl (lv_room (Nat.le_of_ble_eq_true rfl)) dH_change_46 ⟨Nat.le_of_ble_eq_true rfl, Nat.le_of_ble_eq_true rfl⟩) ?_
        refine lv_if_ne (pc := 49) (tgt := 63) hx hb dH_change_49 (by decide) (fun hc => ?_) (fun hc => ?_)
        · replace hf := jif hf hc
          exact (jo2 hf).elim
        · replace hf := jit hf hc
          refine lv_aload_n (pc := 52) hx hb dH_change_52 rfl (lv_at hl 1 rfl) ?_
          refine j_get (pc := 53) (v := .ref (ad 1)) S hw inH 0 0 0 xg_0 rfl (by decide) k_162 rfl dH_change_53 ?_
          refine lv_iload_n (pc := 56) hx hb dH_change_56 rfl (lv_at hl 2 rfl) ?_
          have hg := jbn_e hf; clear hf; obtain ⟨q9, h10, hf⟩ := hg
          refine j_cpi (pc := 57) (v := q9) (va_runV (As := [.int x1]) (rest := []) S (kJ_refusesChangeBy l D ca ad _ σ x1 q9 h10) (cwV 1 S.2.2.2.2 (jgV k_378 k_379 k_380 k_2 k_381) rfl rfl rfl (by decide +kernel) ⟨Nat.le_of_ble_eq_true rfl, Nat.le_of_ble_eq_true rfl⟩) (j_preV (As := [.int x1]) hw xN_b (xN_to hN hw hA) rfl xg_1) rfl rfl hl.1 rfl (lv_room (Nat.le_of_ble_eq_true rfl)) dH_change_57 ⟨Nat.le_of_ble_eq_true rfl, Nat.le_of_ble_eq_true rfl⟩) ?_
          refine lv_if_eq (pc := 60) (tgt := 71) hx hb dH_change_60 (by decide) (fun hc => ?_) (fun hc => ?_)
          · replace hf := jit hf hc
            refine lv_aload_n (pc := 71) hx hb dH_change_71 rfl (lv_at hl 1 rfl) ?_
            refine lv_iload_n (pc := 72) hx hb dH_change_72 rfl (lv_at hl 2 rfl) ?_
            refine lv_iload (pc := 73) hx hb dH_change_73 (lv_at hl 0 rfl) ?_
            refine lv_iload (pc := 75) hx hb dH_change_75 (lv_at hl 5 rfl) ?_
            have hg := jbn_e hf; clear hf; obtain ⟨q11, h12, hf⟩ := hg
            refine j_callv (pc := 77) (C := xC ca ad) (σ' := q11) hw hA (va_runV (As := [.int x1, .int q5, .int x4]) (rest := []) S (kH_writeChange l D ca ad _ σ x1 q5 x4 q11 h12) (cwV 3 S.2.2.2.2 (jgV k_393 k_395 ks_7 k_1 k_396) rfl rfl rfl (by decide +kernel) ⟨Nat.le_of_ble_eq_true rfl, Nat.le_of_ble_eq_true rfl⟩) (j_preV (As := [.int x1, .int q5, .int x4]) hw xN_b (xN_to hN hw hA) rfl xg_0) rfl rfl hl.1 rfl (lv_room (Nat.le_of_ble_eq_true rfl)) dH_change_77 ⟨Nat.le_of_ble_eq_true rfl, Nat.le_of_ble_eq_true rfl⟩) (fun H locs hw => ?_)
            refine lv_aload_n (pc := 80) hx hb dH_change_80 rfl (lv_at hl 1 rfl) ?_
            refine j_get (pc := 81) (v := .ref (ad 1)) S hw inH 0 0 0 xg_0 rfl (by decide) k_162 rfl dH_change_81 ?_
            refine j_get (pc := 84) (v := .int (q11 100 0)) S hw inJ 1 1 9 xg_1 rfl (by decide) k_50 rfl dH_change_84 ?_
            obtain ⟨rfl, rfl⟩ := jo0 hf
            exact j_iret (pc := 87) S hw hr hlk dH_change_87
          · replace hf := jif hf hc
            exact (jo2 hf).elim
    · replace hf := jit hf hc
      exact (jo2 hf).elim
set_option maxHeartbeats 4000000 in
set_option maxRecDepth 100000 in
theorem knH_change (l : Launch) (D : va_G) (ca : Nat → ClassId) (ad : Nat → Nat) (sz : Nat) (σ : JS) (x1 : Int32) (x2 : Int32) (x3 : Int32) (x4 : Int32) (vo : Int32) (σo : JS) (hf : mH_change σ x1 x2 x3 x4 = some (0, vo, σo)) : Met l yH_change wsH_change rmnH_change (jPre D (xT ca) (xC ca ad σ) (xN (va_A (xC ca ad σ) sz)) sz [.ref (ad 0), .int x1, .int x2, .int x3, .int x4]) (jQi D (xT ca) (xC ca ad) (va_A (xC ca ad σ) sz) vo σo) 0 0 (va_A (xC ca ad σ) sz) := by
  refine Met.ofW (cc := cH_change) (maxL := 6) (ret := some .int) (by decide) rfl ?_
  intro p e s m args below meth c s₁ B hml hv
  obtain ⟨rfl, hsz, hP, hK, hD0, hN⟩ := hv
  subst hsz
  have hl := lv_entry [.ref (ad 0), .int x1, .int x2, .int x3, .int x4] (n := 6) (Nat.le_of_ble_eq_true rfl)
  rw [lg_entry_eq]
  generalize (lg_sl [.ref (ad 0), .int x1, .int x2, .int x3, .int x4] ++ List.replicate (6 - (lg_sl [.ref (ad 0), .int x1, .int x2, .int x3, .int x4]).length) Slot.unset).toArray = ls at hl ⊢
  exact bnH_change (fun q h => Or.inr h) ⟨B.exec, B.bytes, hml, findClass_of_methodNamed B.named, fun w h => atoms_spec (ws := wsH_change) B.pre w (List.mem_cons_of_mem _ h)⟩ hN B.returns B.notSynchronized vo σo σ x1 x2 x3 x4 ls hl ⟨hP, hD0.self, va_S.rf, hK⟩ hf
set_option maxHeartbeats 4000000 in
set_option maxRecDepth 100000 in
theorem bxH_change {p : Program} {l : Launch} {e : Env} {s : State} {m : MethodId} {args : Array Value} {below : List Frame} {meth : Method} {c : Code} {D : va_G} {ca : Nat → ClassId} {ad : Nat → Nat} {A : Nat → Prop} (hA : ∀ q, s.heap.size ≤ q → A q) (S : CallFix p m c cH_change 6 s args jall RH) (hN : xN A s) (hr : meth.sig.returnType = some .int) (hlk : meth.locks = false) (hl9 : l.stackTraces = false) (ht9 : ∀ x ∈ c.exceptionTable.toList, False) (ko : Nat) (vo : Int32) (σo : JS) (hko : ¬ ko = 0) (σ : JS) (x1 : Int32) (x2 : Int32) (x3 : Int32) (x4 : Int32) (ls : Array Slot) (hl : lv_has ls 6 [(0, .ref (ad 0)), (1, .int x1), (2, .int x2), (3, .int x3), (4, .int x4)]) (hw : jH D (xT ca) (xC ca ad σ) A s.heap s.heap [] s) (hf : mH_change σ x1 x2 x3 x4 = some (ko, vo, σo)) : W p l e (headSpec wsH_change rmxH_change).room s m args below meth c s.heap [] 0 0 (jxQ below s (jE ko) (jB D (xT ca) (xC ca ad) A σo) A 1 6) (F0 m 0 ls []) := by
  have hx := S.1
  have hb := S.2.1
  unfold mH_change at hf
  refine lv_aload_n (pc := 0) hx hb dH_change_0 rfl (lv_at hl 0 rfl) ?_
  refine lv_iload_n (pc := 1) hx hb dH_change_1 rfl (lv_at hl 1 rfl) ?_
  have hg := jbn_e hf; clear hf; obtain ⟨q1, h2, hf⟩ := hg
  refine j_cpi (pc := 2) (v := q1) (va_runV (As := [.int x1]) (rest := []) S (kH_isJob l D ca ad _ σ x1 q1 h2) (cwV 1 S.2.2.2.2 (jgV k_362 k_364 ks_5 k_1 k_365) rfl rfl rfl (by decide +kernel) ⟨Nat.le_of_ble_eq_true rfl, Nat.le_of_ble_eq_true rfl⟩) (j_preV (As := [.int x1]) hw xN_b (xN_to hN hw hA) rfl xg_0) rfl rfl hl.1 rfl (lv_room (Nat.le_of_ble_eq_true rfl)) dH_change_2 ⟨Nat.le_of_ble_eq_true rfl, Nat.le_of_ble_eq_true rfl⟩) ?_
  refine lv_if_eq (pc := 5) (tgt := 17) hx hb dH_change_5 (by decide) (fun hc => ?_) (fun hc => ?_)
  · replace hf := jit hf hc
    obtain ⟨rfl, rfl, rfl⟩ := jo4 hf
    exact jx_throw (pc := 17) (own := RH) (cls := jE 1) (names := jnm) (ik := 61) (ic := 63) hx hb hl9 S.2.2.2.1 (by decide +kernel) (by decide +kernel) (S.2.2.2.2 _ k_278) (S.2.2.2.2 _ k_11) (jxw_of S hN jxw1) (hl.1.trans S.2.2.1.symm) dH_change_17 dH_change_20 dH_change_21 dH_change_24 ht9 (Nat.le_of_ble_eq_true rfl) (Nat.le_of_ble_eq_true rfl) (Nat.le_of_ble_eq_true rfl) (Nat.le_of_ble_eq_true rfl) hlk (Nat.le_refl _) (Nat.le_refl _) (jB_kept hw)
  · replace hf := jif hf hc
    refine lv_aload_n (pc := 8) hx hb dH_change_8 rfl (lv_at hl 0 rfl) ?_
    refine lv_iload_n (pc := 9) hx hb dH_change_9 rfl (lv_at hl 2 rfl) ?_
    refine lv_iload_n (pc := 10) hx hb dH_change_10 rfl (lv_at hl 3 rfl) ?_
    have hg := jbn_e hf; clear hf; obtain ⟨q3, h4, hf⟩ := hg
    refine j_cpi (pc := 11) (v := q3) (va_runV (As := [.int x2, .int x3]) (rest := []) S (kH_isRecord l D ca ad _ σ x2 x3 q3 h4) (cwV 2 S.2.2.2.2 (jgV k_203 k_205 ks_6 k_1 k_206) rfl rfl rfl (by decide +kernel) ⟨Nat.le_of_ble_eq_true rfl, Nat.le_of_ble_eq_true rfl⟩) (j_preV (As := [.int x2, .int x3]) hw xN_b (xN_to hN hw hA) rfl xg_0) rfl rfl hl.1 rfl (lv_room (Nat.le_of_ble_eq_true rfl)) dH_change_11 ⟨Nat.le_of_ble_eq_true rfl, Nat.le_of_ble_eq_true rfl⟩) ?_
    refine lv_if_ne (pc := 14) (tgt := 25) hx hb dH_change_14 (by decide) (fun hc => ?_) (fun hc => ?_)
    · replace hf := jif hf hc
      refine lv_iload_n (pc := 25) hx hb dH_change_25 rfl (lv_at hl 2 rfl) ?_
      refine lv_iload_n (pc := 26) hx hb dH_change_26 rfl (lv_at hl 3 rfl) ?_
      have hg := jbn_e hf; clear hf; obtain ⟨q5, h6, hf⟩ := hg
      refine j_cpi (pc := 27) (v := q5) (va_runS (As := [.int x2, .int x3]) (rest := []) S (kH_cellOf l D ca ad _ σ x2 x3 q5 h6) (cwS 2 S.2.2.2.2 (jgS k_211 k_212 k_1 k_213) rfl rfl rfl (by decide +kernel) ⟨Nat.le_of_ble_eq_true rfl, Nat.le_of_ble_eq_true rfl⟩) (j_preS hw xN_b (xN_to hN hw hA)) rfl rfl hl.1 rfl (lv_room (Nat.le_of_ble_eq_true rfl)) dH_change_27 ⟨Nat.le_of_ble_eq_true rfl, Nat.le_of_ble_eq_true rfl⟩) ?_
      refine lv_istore (pc := 30) (lv' := [(5, .int q5), (0, .ref (ad 0)), (1, .int x1), (2, .int x2), (3, .int x3), (4, .int x4)]) hx hb dH_change_30 hl (by decide) rfl (fun ls hl => ?_)
      refine lv_aload_n (pc := 32) hx hb dH_change_32 rfl (lv_at hl 1 rfl) ?_
      refine j_get (pc := 33) (v := .int (σ 100 8)) S hw inH 0 0 11 xg_0 rfl (by decide) k_173 rfl dH_change_33 ?_
      refine lv_if_eq (pc := 36) (tgt := 63) hx hb dH_change_36 (by decide) (fun hc => ?_) (fun hc => ?_)
      · replace hf := jit hf hc
        obtain ⟨rfl, rfl, rfl⟩ := jo4 hf
        exact jx_throw (pc := 63) (own := RH) (cls := jE 2) (names := jnm) (ik := 68) (ic := 70) hx hb hl9 S.2.2.2.1 (by decide +kernel) (by decide +kernel) (S.2.2.2.2 _ k_340) (S.2.2.2.2 _ k_12) (jxw_of S hN jxw2) (hl.1.trans S.2.2.1.symm) dH_change_63 dH_change_66 dH_change_67 dH_change_70 ht9 (Nat.le_of_ble_eq_true rfl) (Nat.le_of_ble_eq_true rfl) (Nat.le_of_ble_eq_true rfl) (Nat.le_of_ble_eq_true rfl) hlk (Nat.le_refl _) (Nat.le_refl _) (jB_kept hw)
      · replace hf := jif hf hc
        refine lv_aload_n (pc := 39) hx hb dH_change_39 rfl (lv_at hl 1 rfl) ?_
        refine j_get (pc := 40) (v := .ref (ad 1)) S hw inH 0 0 0 xg_0 rfl (by decide) k_162 rfl dH_change_40 ?_
        refine lv_iload_n (pc := 43) hx hb dH_change_43 rfl (lv_at hl 2 rfl) ?_
        refine lv_iload (pc := 44) hx hb dH_change_44 (lv_at hl 0 rfl) ?_
        have hg := jbn_e hf; clear hf; obtain ⟨q7, h8, hf⟩ := hg
        refine j_cpi (pc := 46) (v := q7) (va_runV (As := [.int x1, .int q5]) (rest := []) S (kJ_isLockedByAnother l D ca ad _ σ x1 q5 q7 h8) (cwV 2 S.2.2.2.2 (jgV k_366 k_367 k_368 k_2 k_369) rfl rfl rfl (by decide +kernel) ⟨Nat.le_of_ble_eq_true rfl, Nat.le_of_ble_eq_true rfl⟩) (j_preV (As := [.int x1, .int q5]) hw xN_b (xN_to hN hw hA) rfl xg_1) rfl rfl hl.1 rfl (lv_room (Nat.le_of_ble_eq_true rfl)) dH_change_46 ⟨Nat.le_of_ble_eq_true rfl, Nat.le_of_ble_eq_true rfl⟩) ?_
        refine lv_if_ne (pc := 49) (tgt := 63) hx hb dH_change_49 (by decide) (fun hc => ?_) (fun hc => ?_)
        · replace hf := jif hf hc
          obtain ⟨rfl, rfl, rfl⟩ := jo4 hf
          exact jx_throw (pc := 63) (own := RH) (cls := jE 2) (names := jnm) (ik := 68) (ic := 70) hx hb hl9 S.2.2.2.1 (by decide +kernel) (by decide +kernel) (S.2.2.2.2 _ k_340) (S.2.2.2.2 _ k_12) (jxw_of S hN jxw2) (hl.1.trans S.2.2.1.symm) dH_change_63 dH_change_66 dH_change_67 dH_change_70 ht9 (Nat.le_of_ble_eq_true rfl) (Nat.le_of_ble_eq_true rfl) (Nat.le_of_ble_eq_true rfl) (Nat.le_of_ble_eq_true rfl) hlk (Nat.le_refl _) (Nat.le_refl _) (jB_kept hw)
        · replace hf := jit hf hc
          refine lv_aload_n (pc := 52) hx hb dH_change_52 rfl (lv_at hl 1 rfl) ?_
          refine j_get (pc := 53) (v := .ref (ad 1)) S hw inH 0 0 0 xg_0 rfl (by decide) k_162 rfl dH_change_53 ?_
          refine lv_iload_n (pc := 56) hx hb dH_change_56 rfl (lv_at hl 2 rfl) ?_
          have hg := jbn_e hf; clear hf; obtain ⟨q9, h10, hf⟩ := hg
          refine j_cpi (pc := 57) (v := q9) (va_runV (As := [.int x1]) (rest := []) S (kJ_refusesChangeBy l D ca ad _ σ x1 q9 h10) (cwV 1 S.2.2.2.2 (jgV k_378 k_379 k_380 k_2 k_381) rfl rfl rfl (by decide +kernel) ⟨Nat.le_of_ble_eq_true rfl, Nat.le_of_ble_eq_true rfl⟩) (j_preV (As := [.int x1]) hw xN_b (xN_to hN hw hA) rfl xg_1) rfl rfl hl.1 rfl (lv_room (Nat.le_of_ble_eq_true rfl)) dH_change_57 ⟨Nat.le_of_ble_eq_true rfl, Nat.le_of_ble_eq_true rfl⟩) ?_
          refine lv_if_eq (pc := 60) (tgt := 71) hx hb dH_change_60 (by decide) (fun hc => ?_) (fun hc => ?_)
          · replace hf := jit hf hc
            refine lv_aload_n (pc := 71) hx hb dH_change_71 rfl (lv_at hl 1 rfl) ?_
            refine lv_iload_n (pc := 72) hx hb dH_change_72 rfl (lv_at hl 2 rfl) ?_
            refine lv_iload (pc := 73) hx hb dH_change_73 (lv_at hl 0 rfl) ?_
            refine lv_iload (pc := 75) hx hb dH_change_75 (lv_at hl 5 rfl) ?_
            have hg := jbn_e hf; clear hf; obtain ⟨q11, h12, hf⟩ := hg
            refine j_callv (pc := 77) (C := xC ca ad) (σ' := q11) hw hA (va_runV (As := [.int x1, .int q5, .int x4]) (rest := []) S (kH_writeChange l D ca ad _ σ x1 q5 x4 q11 h12) (cwV 3 S.2.2.2.2 (jgV k_393 k_395 ks_7 k_1 k_396) rfl rfl rfl (by decide +kernel) ⟨Nat.le_of_ble_eq_true rfl, Nat.le_of_ble_eq_true rfl⟩) (j_preV (As := [.int x1, .int q5, .int x4]) hw xN_b (xN_to hN hw hA) rfl xg_0) rfl rfl hl.1 rfl (lv_room (Nat.le_of_ble_eq_true rfl)) dH_change_77 ⟨Nat.le_of_ble_eq_true rfl, Nat.le_of_ble_eq_true rfl⟩) (fun H locs hw => ?_)
            refine lv_aload_n (pc := 80) hx hb dH_change_80 rfl (lv_at hl 1 rfl) ?_
            refine j_get (pc := 81) (v := .ref (ad 1)) S hw inH 0 0 0 xg_0 rfl (by decide) k_162 rfl dH_change_81 ?_
            refine j_get (pc := 84) (v := .int (q11 100 0)) S hw inJ 1 1 9 xg_1 rfl (by decide) k_50 rfl dH_change_84 ?_
            exact absurd (jo1 hf) hko
          · replace hf := jif hf hc
            obtain ⟨rfl, rfl, rfl⟩ := jo4 hf
            exact jx_throw (pc := 63) (own := RH) (cls := jE 2) (names := jnm) (ik := 68) (ic := 70) hx hb hl9 S.2.2.2.1 (by decide +kernel) (by decide +kernel) (S.2.2.2.2 _ k_340) (S.2.2.2.2 _ k_12) (jxw_of S hN jxw2) (hl.1.trans S.2.2.1.symm) dH_change_63 dH_change_66 dH_change_67 dH_change_70 ht9 (Nat.le_of_ble_eq_true rfl) (Nat.le_of_ble_eq_true rfl) (Nat.le_of_ble_eq_true rfl) (Nat.le_of_ble_eq_true rfl) hlk (Nat.le_refl _) (Nat.le_refl _) (jB_kept hw)
    · replace hf := jit hf hc
      obtain ⟨rfl, rfl, rfl⟩ := jo4 hf
      exact jx_throw (pc := 17) (own := RH) (cls := jE 1) (names := jnm) (ik := 61) (ic := 63) hx hb hl9 S.2.2.2.1 (by decide +kernel) (by decide +kernel) (S.2.2.2.2 _ k_278) (S.2.2.2.2 _ k_11) (jxw_of S hN jxw1) (hl.1.trans S.2.2.1.symm) dH_change_17 dH_change_20 dH_change_21 dH_change_24 ht9 (Nat.le_of_ble_eq_true rfl) (Nat.le_of_ble_eq_true rfl) (Nat.le_of_ble_eq_true rfl) (Nat.le_of_ble_eq_true rfl) hlk (Nat.le_refl _) (Nat.le_refl _) (jB_kept hw)
set_option maxHeartbeats 4000000 in
set_option maxRecDepth 100000 in
theorem kxH_change (l : Launch) (hl9 : l.stackTraces = false) (D : va_G) (ca : Nat → ClassId) (ad : Nat → Nat) (sz : Nat) (σ : JS) (x1 : Int32) (x2 : Int32) (x3 : Int32) (x4 : Int32) (ko : Nat) (vo : Int32) (σo : JS) (hko : ¬ ko = 0) (hf : mH_change σ x1 x2 x3 x4 = some (ko, vo, σo)) : jxM l yH_change wsH_change rmxH_change (jPre D (xT ca) (xC ca ad σ) (xN (va_A (xC ca ad σ) sz)) sz [.ref (ad 0), .int x1, .int x2, .int x3, .int x4]) (jE ko) (jB D (xT ca) (xC ca ad) (va_A (xC ca ad σ) sz) σo) (va_A (xC ca ad σ) sz) 1 6 := by
  refine jxM_of (cc := cH_change) (maxL := 6) (ret := some .int) (by decide) rfl ?_
  intro p e s m args below meth c s₁ B hml hnil hv
  obtain ⟨rfl, hsz, hP, hK, hD0, hN⟩ := hv
  subst hsz
  have hl := lv_entry [.ref (ad 0), .int x1, .int x2, .int x3, .int x4] (n := 6) (Nat.le_of_ble_eq_true rfl)
  rw [lg_entry_eq]
  generalize (lg_sl [.ref (ad 0), .int x1, .int x2, .int x3, .int x4] ++ List.replicate (6 - (lg_sl [.ref (ad 0), .int x1, .int x2, .int x3, .int x4]).length) Slot.unset).toArray = ls at hl ⊢
  exact bxH_change (fun q h => Or.inr h) ⟨B.exec, B.bytes, hml, findClass_of_methodNamed B.named, fun w h => atoms_spec (ws := wsH_change) B.pre w (List.mem_cons_of_mem _ h)⟩ hN B.returns B.notSynchronized hl9 hnil ko vo σo hko σ x1 x2 x3 x4 ls hl ⟨hP, hD0.self, va_S.rf, hK⟩ hf

def rmH_get : Room := { frames := 2, cells := 0, slots := 0, locals := 43 }
def mH_get (σ : JS) (x1 : Int32) (x2 : Int32) : Option (Int64) :=
  if (σ 100 8) = 0 then
  (some (1099511627776 : Int64))
  else
  (jbn (mH_isRecord σ x1 x2) fun q1 =>
  if q1 = 0 then
  (some (1099511627776 : Int64))
  else
  (jbn (mH_cellOf σ x1 x2) fun q3 =>
  jrd σ 15 24 q3 fun v5 =>
  some v5.toInt64))
set_option maxHeartbeats 4000000 in
set_option maxRecDepth 100000 in
theorem bH_get {p : Program} {l : Launch} {e : Env} {s : State} {m : MethodId} {args : Array Value} {below : List Frame} {meth : Method} {c : Code} {D : va_G} {ca : Nat → ClassId} {ad : Nat → Nat} {A : Nat → Prop} (hA : ∀ q, s.heap.size ≤ q → A q) (S : CallFix p m c cH_get 3 s args jall RH) (hN : xN A s) (hr : meth.sig.returnType = some .long) (hlk : meth.locks = false) (out : Int64) (σ : JS) (x1 : Int32) (x2 : Int32) (ls : Array Slot) (hl : lv_has ls 3 [(0, .ref (ad 0)), (1, .int x1), (2, .int x2)]) (hw : jH D (xT ca) (xC ca ad σ) A s.heap s.heap [] s) (hf : mH_get σ x1 x2 = some out) : W p l e (headSpec wsH_get rmH_get).room s m args below meth c s.heap [] 0 0 (MQ below (jSl out) args s 0 0 (fun _ => False)) (F0 m 0 ls []) := by
  have hx := S.1
  have hb := S.2.1
  unfold mH_get at hf
  refine lv_aload_n (pc := 0) hx hb dH_get_0 rfl (lv_at hl 0 rfl) ?_
  refine j_get (pc := 1) (v := .int (σ 100 8)) S hw inH 0 0 11 xg_0 rfl (by decide) k_173 rfl dH_get_1 ?_
  refine lv_if_eq (pc := 4) (tgt := 33) hx hb dH_get_4 (by decide) (fun hc => ?_) (fun hc => ?_)
  · replace hf := jit hf hc
    refine lv_ldc2 (pc := 33) (v := (1099511627776 : Int64)) hx hb S.2.2.2.1 (S.2.2.2.2 _ k_214) dH_get_33 ?_
    obtain rfl := jsm hf
    exact j_lpr (pc := 36) S hr hlk dH_get_36
  · replace hf := jif hf hc
    refine lv_aload_n (pc := 7) hx hb dH_get_7 rfl (lv_at hl 0 rfl) ?_
    refine lv_iload_n (pc := 8) hx hb dH_get_8 rfl (lv_at hl 1 rfl) ?_
    refine lv_iload_n (pc := 9) hx hb dH_get_9 rfl (lv_at hl 2 rfl) ?_
    have hg := jbn_e hf; clear hf; obtain ⟨q1, h2, hf⟩ := hg
    refine j_cpi (pc := 10) (v := q1) (va_runV (As := [.int x1, .int x2]) (rest := []) S (kH_isRecord l D ca ad _ σ x1 x2 q1 h2) (cwV 2 S.2.2.2.2 (jgV k_203 k_205 ks_6 k_1 k_206) rfl rfl rfl (by decide +kernel) ⟨Nat.le_of_ble_eq_true rfl, Nat.le_of_ble_eq_true rfl⟩) (j_preV (As := [.int x1, .int x2]) hw xN_b (xN_to hN hw hA) rfl xg_0) rfl rfl hl.1 rfl (lv_room (Nat.le_of_ble_eq_true rfl)) dH_get_10 ⟨Nat.le_of_ble_eq_true rfl, Nat.le_of_ble_eq_true rfl⟩) ?_
    refine lv_if_eq (pc := 13) (tgt := 33) hx hb dH_get_13 (by decide) (fun hc => ?_) (fun hc => ?_)
    · replace hf := jit hf hc
      refine lv_ldc2 (pc := 33) (v := (1099511627776 : Int64)) hx hb S.2.2.2.1 (S.2.2.2.2 _ k_214) dH_get_33 ?_
      obtain rfl := jsm hf
      exact j_lpr (pc := 36) S hr hlk dH_get_36
    · replace hf := jif hf hc
      refine lv_aload_n (pc := 16) hx hb dH_get_16 rfl (lv_at hl 0 rfl) ?_
      refine j_get (pc := 17) (v := .ref (ad 2)) S hw inH 0 0 1 xg_0 rfl (by decide) k_163 rfl dH_get_17 ?_
      refine j_get (pc := 20) (v := .ref (ad 15)) S hw inS 2 2 0 xg_2 rfl (by decide) k_84 rfl dH_get_20 ?_
      refine lv_iload_n (pc := 23) hx hb dH_get_23 rfl (lv_at hl 1 rfl) ?_
      refine lv_iload_n (pc := 24) hx hb dH_get_24 rfl (lv_at hl 2 rfl) ?_
      have hg := jbn_e hf; clear hf; obtain ⟨q3, h4, hf⟩ := hg
      refine j_cpi (pc := 25) (v := q3) (va_runS (As := [.int x1, .int x2]) (rest := [.ref (ad 15)]) S (kH_cellOf l D ca ad _ σ x1 x2 q3 h4) (cwS 2 S.2.2.2.2 (jgS k_211 k_212 k_1 k_213) rfl rfl rfl (by decide +kernel) ⟨Nat.le_of_ble_eq_true rfl, Nat.le_of_ble_eq_true rfl⟩) (j_preS hw xN_b (xN_to hN hw hA)) rfl rfl hl.1 rfl (lv_room (Nat.le_of_ble_eq_true rfl)) dH_get_25 ⟨Nat.le_of_ble_eq_true rfl, Nat.le_of_ble_eq_true rfl⟩) ?_
      have hg := jrd_e hf; clear hf; obtain ⟨h6, v5, e7, hf⟩ := hg
      refine j_iald (pc := 28) S hw 15 9 xg_15 xt_15 h6 e7 dH_get_28 ?_
      refine lv_i2l (pc := 29) (v := v5.toInt64) hx hb dH_get_29 rfl ?_
      refine lv_goto (pc := 30) (tgt := 36) hx hb dH_get_30 (by decide) ?_
      obtain rfl := jsm hf
      exact j_lpr (pc := 36) S hr hlk dH_get_36
set_option maxHeartbeats 4000000 in
set_option maxRecDepth 100000 in
theorem kH_get (l : Launch) (D : va_G) (ca : Nat → ClassId) (ad : Nat → Nat) (sz : Nat) (σ : JS) (x1 : Int32) (x2 : Int32) (out : Int64) (hf : mH_get σ x1 x2 = some out) : Met l yH_get wsH_get rmH_get (jPre D (xT ca) (xC ca ad σ) (xN (va_A (xC ca ad σ) sz)) sz [.ref (ad 0), .int x1, .int x2]) (jSl out) 0 0 (fun _ => False) := by
  refine Met.ofW (cc := cH_get) (maxL := 3) (ret := some .long) (by decide) rfl ?_
  intro p e s m args below meth c s₁ B hml hv
  obtain ⟨rfl, hsz, hP, hK, hD0, hN⟩ := hv
  subst hsz
  have hl := lv_entry [.ref (ad 0), .int x1, .int x2] (n := 3) (Nat.le_of_ble_eq_true rfl)
  rw [lg_entry_eq]
  generalize (lg_sl [.ref (ad 0), .int x1, .int x2] ++ List.replicate (3 - (lg_sl [.ref (ad 0), .int x1, .int x2]).length) Slot.unset).toArray = ls at hl ⊢
  exact bH_get (fun q h => Or.inr h) ⟨B.exec, B.bytes, hml, findClass_of_methodNamed B.named, fun w h => atoms_spec (ws := wsH_get) B.pre w (List.mem_cons_of_mem _ h)⟩ hN B.returns B.notSynchronized out σ x1 x2 ls hl ⟨hP, hD0.self, va_S.rf, hK⟩ hf

def rmH_disk : Room := { frames := 2, cells := 0, slots := 0, locals := 43 }
def mH_disk (σ : JS) (x1 : Int32) (x2 : Int32) : Option (Int64) :=
  jbn (mH_isRecord σ x1 x2) fun q1 =>
  if q1 = 0 then
  (some (1099511627776 : Int64))
  else
  (jbn (mH_cellOf σ x1 x2) fun q3 =>
  jrd σ 16 24 q3 fun v5 =>
  some v5.toInt64)
set_option maxHeartbeats 4000000 in
set_option maxRecDepth 100000 in
theorem bH_disk {p : Program} {l : Launch} {e : Env} {s : State} {m : MethodId} {args : Array Value} {below : List Frame} {meth : Method} {c : Code} {D : va_G} {ca : Nat → ClassId} {ad : Nat → Nat} {A : Nat → Prop} (hA : ∀ q, s.heap.size ≤ q → A q) (S : CallFix p m c cH_disk 3 s args jall RH) (hN : xN A s) (hr : meth.sig.returnType = some .long) (hlk : meth.locks = false) (out : Int64) (σ : JS) (x1 : Int32) (x2 : Int32) (ls : Array Slot) (hl : lv_has ls 3 [(0, .ref (ad 0)), (1, .int x1), (2, .int x2)]) (hw : jH D (xT ca) (xC ca ad σ) A s.heap s.heap [] s) (hf : mH_disk σ x1 x2 = some out) : W p l e (headSpec wsH_disk rmH_disk).room s m args below meth c s.heap [] 0 0 (MQ below (jSl out) args s 0 0 (fun _ => False)) (F0 m 0 ls []) := by
  have hx := S.1
  have hb := S.2.1
  unfold mH_disk at hf
  refine lv_aload_n (pc := 0) hx hb dH_disk_0 rfl (lv_at hl 0 rfl) ?_
  refine lv_iload_n (pc := 1) hx hb dH_disk_1 rfl (lv_at hl 1 rfl) ?_
  refine lv_iload_n (pc := 2) hx hb dH_disk_2 rfl (lv_at hl 2 rfl) ?_
  have hg := jbn_e hf; clear hf; obtain ⟨q1, h2, hf⟩ := hg
  refine j_cpi (pc := 3) (v := q1) (va_runV (As := [.int x1, .int x2]) (rest := []) S (kH_isRecord l D ca ad _ σ x1 x2 q1 h2) (cwV 2 S.2.2.2.2 (jgV k_203 k_205 ks_6 k_1 k_206) rfl rfl rfl (by decide +kernel) ⟨Nat.le_of_ble_eq_true rfl, Nat.le_of_ble_eq_true rfl⟩) (j_preV (As := [.int x1, .int x2]) hw xN_b (xN_to hN hw hA) rfl xg_0) rfl rfl hl.1 rfl (lv_room (Nat.le_of_ble_eq_true rfl)) dH_disk_3 ⟨Nat.le_of_ble_eq_true rfl, Nat.le_of_ble_eq_true rfl⟩) ?_
  refine lv_if_eq (pc := 6) (tgt := 26) hx hb dH_disk_6 (by decide) (fun hc => ?_) (fun hc => ?_)
  · replace hf := jit hf hc
    refine lv_ldc2 (pc := 26) (v := (1099511627776 : Int64)) hx hb S.2.2.2.1 (S.2.2.2.2 _ k_214) dH_disk_26 ?_
    obtain rfl := jsm hf
    exact j_lpr (pc := 29) S hr hlk dH_disk_29
  · replace hf := jif hf hc
    refine lv_aload_n (pc := 9) hx hb dH_disk_9 rfl (lv_at hl 0 rfl) ?_
    refine j_get (pc := 10) (v := .ref (ad 2)) S hw inH 0 0 1 xg_0 rfl (by decide) k_163 rfl dH_disk_10 ?_
    refine j_get (pc := 13) (v := .ref (ad 16)) S hw inS 2 2 1 xg_2 rfl (by decide) k_86 rfl dH_disk_13 ?_
    refine lv_iload_n (pc := 16) hx hb dH_disk_16 rfl (lv_at hl 1 rfl) ?_
    refine lv_iload_n (pc := 17) hx hb dH_disk_17 rfl (lv_at hl 2 rfl) ?_
    have hg := jbn_e hf; clear hf; obtain ⟨q3, h4, hf⟩ := hg
    refine j_cpi (pc := 18) (v := q3) (va_runS (As := [.int x1, .int x2]) (rest := [.ref (ad 16)]) S (kH_cellOf l D ca ad _ σ x1 x2 q3 h4) (cwS 2 S.2.2.2.2 (jgS k_211 k_212 k_1 k_213) rfl rfl rfl (by decide +kernel) ⟨Nat.le_of_ble_eq_true rfl, Nat.le_of_ble_eq_true rfl⟩) (j_preS hw xN_b (xN_to hN hw hA)) rfl rfl hl.1 rfl (lv_room (Nat.le_of_ble_eq_true rfl)) dH_disk_18 ⟨Nat.le_of_ble_eq_true rfl, Nat.le_of_ble_eq_true rfl⟩) ?_
    have hg := jrd_e hf; clear hf; obtain ⟨h6, v5, e7, hf⟩ := hg
    refine j_iald (pc := 21) S hw 16 10 xg_16 xt_16 h6 e7 dH_disk_21 ?_
    refine lv_i2l (pc := 22) (v := v5.toInt64) hx hb dH_disk_22 rfl ?_
    refine lv_goto (pc := 23) (tgt := 29) hx hb dH_disk_23 (by decide) ?_
    obtain rfl := jsm hf
    exact j_lpr (pc := 29) S hr hlk dH_disk_29
set_option maxHeartbeats 4000000 in
set_option maxRecDepth 100000 in
theorem kH_disk (l : Launch) (D : va_G) (ca : Nat → ClassId) (ad : Nat → Nat) (sz : Nat) (σ : JS) (x1 : Int32) (x2 : Int32) (out : Int64) (hf : mH_disk σ x1 x2 = some out) : Met l yH_disk wsH_disk rmH_disk (jPre D (xT ca) (xC ca ad σ) (xN (va_A (xC ca ad σ) sz)) sz [.ref (ad 0), .int x1, .int x2]) (jSl out) 0 0 (fun _ => False) := by
  refine Met.ofW (cc := cH_disk) (maxL := 3) (ret := some .long) (by decide) rfl ?_
  intro p e s m args below meth c s₁ B hml hv
  obtain ⟨rfl, hsz, hP, hK, hD0, hN⟩ := hv
  subst hsz
  have hl := lv_entry [.ref (ad 0), .int x1, .int x2] (n := 3) (Nat.le_of_ble_eq_true rfl)
  rw [lg_entry_eq]
  generalize (lg_sl [.ref (ad 0), .int x1, .int x2] ++ List.replicate (3 - (lg_sl [.ref (ad 0), .int x1, .int x2]).length) Slot.unset).toArray = ls at hl ⊢
  exact bH_disk (fun q h => Or.inr h) ⟨B.exec, B.bytes, hml, findClass_of_methodNamed B.named, fun w h => atoms_spec (ws := wsH_disk) B.pre w (List.mem_cons_of_mem _ h)⟩ hN B.returns B.notSynchronized out σ x1 x2 ls hl ⟨hP, hD0.self, va_S.rf, hK⟩ hf

