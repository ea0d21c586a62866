def rmnH_link : Room := { frames := 6, cells := 0, slots := 0, locals := 85 }
def rmxH_link : Room := { frames := 6, cells := 1, slots := 6, locals := 85 }
def mH_link_J107 (σ : JS) (x1 : Int32) (x2 : Int32) : Option (Nat × Int32 × JS) :=
  if x2 = 0 then
  (jbn (mL_take σ x1) fun q3 =>
  jbn (mR_receive q3.2 q3.1) fun q5 =>
  some (0, (q5 100 3), q5))
  else
  (if x2 = 1 then
  (jbn (mL_take σ x1) fun q7 =>
  some (0, (q7.2 100 3), q7.2))
  else
  (if x2 = 2 then
  (jrd σ 23 16 x1 fun v9 =>
  jbn (mL_put σ v9) fun q12 =>
  some (0, (q12 100 3), q12))
  else
  (jbn (mL_put σ x1) fun q14 =>
  some (0, (q14 100 3), q14))))
def mH_link_J83 (σ : JS) (x1 : Int32) (x2 : Int32) (x3 : Int32) : Option (Nat × Int32 × JS) :=
  if x3 = 0 then
  (mH_link_J107 σ x1 x2)
  else
  (if (σ 100 3) = (16 : Int32) then
  (some (2, 0, σ))
  else
  (mH_link_J107 σ x1 x2))
def mH_link_J70 (σ : JS) (x1 : Int32) (x2 : Int32) (y0 : Int32) : Option (Nat × Int32 × JS) :=
  if x2 = (3 : Int32) then
  (if (σ 100 8) = 0 then
  (some (2, 0, σ))
  else
  (mH_link_J83 σ x1 x2 y0))
  else
  (mH_link_J83 σ x1 x2 y0)
def mH_link_J65 (σ : JS) (x1 : Int32) (x2 : Int32) : Option (Nat × Int32 × JS) :=
  mH_link_J70 σ x1 x2 (1 : Int32)
def mH_link_J55 (σ : JS) (x1 : Int32) (x2 : Int32) : Option (Nat × Int32 × JS) :=
  if x2 = (3 : Int32) then
  (mH_link_J65 σ x1 x2)
  else
  (if x2 = (2 : Int32) then
  (mH_link_J65 σ x1 x2)
  else
  (mH_link_J70 σ x1 x2 (0 : Int32)))
def mH_link (σ : JS) (x1 : Int32) (x2 : Int32) : Option (Nat × Int32 × JS) :=
  if x2 < 0 then
  (some (1, 0, σ))
  else
  (if x2 ≤ (3 : Int32) then
  (if x2 = (3 : Int32) then
  (jbn (mJ_isKept σ x1) fun q16 =>
  if q16 = 0 then
  (some (1, 0, σ))
  else
  (mH_link_J55 σ x1 x2))
  else
  (jbn (mL_isLetter σ x1) fun q1 =>
  if q1 = 0 then
  (some (1, 0, σ))
  else
  (mH_link_J55 σ x1 x2)))
  else
  (some (1, 0, σ)))
set_option maxHeartbeats 4000000 in
set_option maxRecDepth 100000 in
theorem wnmH_link_J107 {p : Program} {l : Launch} {e : Env} {s : State} {m : MethodId} {args : Array Value} {below : List Frame} {meth : Method} {c : Code} {D : va_G} {ca : Nat → ClassId} {ad : Nat → Nat} {A : Nat → Prop} (hA : ∀ q, s.heap.size ≤ q → A q) (S : CallFix p m c cH_link 4 s args jall RH) (hN : xN A s) (hr : meth.sig.returnType = some .int) (hlk : meth.locks = false) (vo : Int32) (σo : JS) (σ : JS) (x1 : Int32) (x2 : Int32) (ls : Array Slot) (hl : lv_has ls 4 [(0, .ref (ad 0)), (1, .int x1), (2, .int x2)]) (hw : jH D (xT ca) (xC ca ad σ) A s.heap s.heap [] s) (hf : mH_link_J107 σ x1 x2 = some (0, vo, σo)) : W p l e (headSpec wsH_link rmnH_link).room s m args below meth c s.heap [] 0 0 (MQ below (jQi D (xT ca) (xC ca ad) A vo σo) args s 0 0 A) (F0 m 107 ls []) := by
  have hx := S.1
  have hb := S.2.1
  unfold mH_link_J107 at hf
  refine lv_iload_n (pc := 107) hx hb dH_link_107 rfl (lv_at hl 2 rfl) ?_
  by_cases hs0 : x2 = (0 : Int32)
  · replace hf := jit hf hs0
    refine lv_tableIn (pc := 108) (tgt := 136) hx hb dH_link_108 (by rw [hs0]; decide) (by rw [hs0]; decide) (by rw [hs0]; rfl) (by decide) ?_
    refine lv_aload_n (pc := 136) hx hb dH_link_136 rfl (lv_at hl 0 rfl) ?_
    refine j_get (pc := 137) (v := .ref (ad 5)) S hw inH 0 0 4 xg_0 rfl (by decide) k_166 rfl dH_link_137 ?_
    refine lv_aload_n (pc := 140) hx hb dH_link_140 rfl (lv_at hl 0 rfl) ?_
    refine j_get (pc := 141) (v := .ref (ad 4)) S hw inH 0 0 3 xg_0 rfl (by decide) k_165 rfl dH_link_141 ?_
    refine lv_iload_n (pc := 144) hx hb dH_link_144 rfl (lv_at hl 1 rfl) ?_
    have hg := jbn_e hf; clear hf; obtain ⟨q3, h4, hf⟩ := hg
    refine j_calli (pc := 145) (C := xC ca ad) (σ' := q3.2) (v := q3.1) hw hA (va_runV (As := [.int x1]) (rest := [.ref (ad 5)]) S (kL_take l D ca ad _ σ x1 q3 h4) (cwV 1 S.2.2.2.2 (jgV k_570 k_571 k_572 k_5 k_573) rfl rfl rfl (by decide +kernel) ⟨Nat.le_of_ble_eq_true rfl, Nat.le_of_ble_eq_true rfl⟩) (j_preV (As := [.int x1]) hw xN_b (xN_to hN hw hA) rfl xg_4) rfl rfl hl.1 rfl (lv_room (Nat.le_of_ble_eq_true rfl)) dH_link_145 ⟨Nat.le_of_ble_eq_true rfl, Nat.le_of_ble_eq_true rfl⟩) (fun H locs hw => ?_)
    refine lv_aload_n (pc := 148) hx hb dH_link_148 rfl (lv_at hl 0 rfl) ?_
    refine j_get (pc := 149) (v := .ref (ad 1)) S hw inH 0 0 0 xg_0 rfl (by decide) k_162 rfl dH_link_149 ?_
    have hg := jbn_e hf; clear hf; obtain ⟨q5, h6, hf⟩ := hg
    refine j_callv (pc := 152) (C := xC ca ad) (σ' := q5) hw hA (va_runV (As := [.int q3.1, .ref (ad 1)]) (rest := []) S (kR_receive l D ca ad _ q3.2 q3.1 q5 h6) (cwV 2 S.2.2.2.2 (jgV k_575 k_576 k_577 k_6 k_578) rfl rfl rfl (by decide +kernel) ⟨Nat.le_of_ble_eq_true rfl, Nat.le_of_ble_eq_true rfl⟩) (j_preV (As := [.int q3.1, .ref (ad 1)]) hw xN_b (xN_to hN hw hA) rfl xg_5) rfl rfl hl.1 rfl (lv_room (Nat.le_of_ble_eq_true rfl)) dH_link_152 ⟨Nat.le_of_ble_eq_true rfl, Nat.le_of_ble_eq_true rfl⟩) (fun H locs hw => ?_)
    refine lv_goto (pc := 155) (tgt := 197) hx hb dH_link_155 (by decide) ?_
    refine lv_aload_n (pc := 197) hx hb dH_link_197 rfl (lv_at hl 0 rfl) ?_
    refine j_get (pc := 198) (v := .ref (ad 4)) S hw inH 0 0 3 xg_0 rfl (by decide) k_165 rfl dH_link_198 ?_
    refine j_get (pc := 201) (v := .int (q5 100 3)) S hw inL 4 4 1 xg_4 rfl (by decide) k_135 rfl dH_link_201 ?_
    obtain ⟨rfl, rfl⟩ := jo0 hf
    exact j_iret (pc := 204) S hw hr hlk dH_link_204
  · replace hf := jif hf hs0
    by_cases hs1 : x2 = (1 : Int32)
    · replace hf := jit hf hs1
      refine lv_tableIn (pc := 108) (tgt := 158) hx hb dH_link_108 (by rw [hs1]; decide) (by rw [hs1]; decide) (by rw [hs1]; rfl) (by decide) ?_
      refine lv_aload_n (pc := 158) hx hb dH_link_158 rfl (lv_at hl 0 rfl) ?_
      refine j_get (pc := 159) (v := .ref (ad 4)) S hw inH 0 0 3 xg_0 rfl (by decide) k_165 rfl dH_link_159 ?_
      refine lv_iload_n (pc := 162) hx hb dH_link_162 rfl (lv_at hl 1 rfl) ?_
      have hg := jbn_e hf; clear hf; obtain ⟨q7, h8, hf⟩ := hg
      refine j_calli (pc := 163) (C := xC ca ad) (σ' := q7.2) (v := q7.1) hw hA (va_runV (As := [.int x1]) (rest := []) S (kL_take l D ca ad _ σ x1 q7 h8) (cwV 1 S.2.2.2.2 (jgV k_570 k_571 k_572 k_5 k_573) rfl rfl rfl (by decide +kernel) ⟨Nat.le_of_ble_eq_true rfl, Nat.le_of_ble_eq_true rfl⟩) (j_preV (As := [.int x1]) hw xN_b (xN_to hN hw hA) rfl xg_4) rfl rfl hl.1 rfl (lv_room (Nat.le_of_ble_eq_true rfl)) dH_link_163 ⟨Nat.le_of_ble_eq_true rfl, Nat.le_of_ble_eq_true rfl⟩) (fun H locs hw => ?_)
      refine lv_pop (pc := 166) hx hb dH_link_166 rfl ?_
      refine lv_goto (pc := 167) (tgt := 197) hx hb dH_link_167 (by decide) ?_
      refine lv_aload_n (pc := 197) hx hb dH_link_197 rfl (lv_at hl 0 rfl) ?_
      refine j_get (pc := 198) (v := .ref (ad 4)) S hw inH 0 0 3 xg_0 rfl (by decide) k_165 rfl dH_link_198 ?_
      refine j_get (pc := 201) (v := .int (q7.2 100 3)) S hw inL 4 4 1 xg_4 rfl (by decide) k_135 rfl dH_link_201 ?_
      obtain ⟨rfl, rfl⟩ := jo0 hf
      exact j_iret (pc := 204) S hw hr hlk dH_link_204
    · replace hf := jif hf hs1
      by_cases hs2 : x2 = (2 : Int32)
      · replace hf := jit hf hs2
        refine lv_tableIn (pc := 108) (tgt := 170) hx hb dH_link_108 (by rw [hs2]; decide) (by rw [hs2]; decide) (by rw [hs2]; rfl) (by decide) ?_
        refine lv_aload_n (pc := 170) hx hb dH_link_170 rfl (lv_at hl 0 rfl) ?_
        refine j_get (pc := 171) (v := .ref (ad 4)) S hw inH 0 0 3 xg_0 rfl (by decide) k_165 rfl dH_link_171 ?_
        refine lv_aload_n (pc := 174) hx hb dH_link_174 rfl (lv_at hl 0 rfl) ?_
        refine j_get (pc := 175) (v := .ref (ad 4)) S hw inH 0 0 3 xg_0 rfl (by decide) k_165 rfl dH_link_175 ?_
        refine j_get (pc := 178) (v := .ref (ad 23)) S hw inL 4 4 0 xg_4 rfl (by decide) k_133 rfl dH_link_178 ?_
        refine lv_iload_n (pc := 181) hx hb dH_link_181 rfl (lv_at hl 1 rfl) ?_
        have hg := jrd_e hf; clear hf; obtain ⟨h10, v9, e11, hf⟩ := hg
        refine j_iald (pc := 182) S hw 23 17 xg_23 xt_23 h10 e11 dH_link_182 ?_
        have hg := jbn_e hf; clear hf; obtain ⟨q12, h13, hf⟩ := hg
        refine j_callv (pc := 183) (C := xC ca ad) (σ' := q12) hw hA (va_runV (As := [.int v9]) (rest := []) S (kL_put l D ca ad _ σ v9 q12 h13) (cwV 1 S.2.2.2.2 (jgV k_579 k_580 k_581 k_5 k_582) rfl rfl rfl (by decide +kernel) ⟨Nat.le_of_ble_eq_true rfl, Nat.le_of_ble_eq_true rfl⟩) (j_preV (As := [.int v9]) hw xN_b (xN_to hN hw hA) rfl xg_4) rfl rfl hl.1 rfl (lv_room (Nat.le_of_ble_eq_true rfl)) dH_link_183 ⟨Nat.le_of_ble_eq_true rfl, Nat.le_of_ble_eq_true rfl⟩) (fun H locs hw => ?_)
        refine lv_goto (pc := 186) (tgt := 197) hx hb dH_link_186 (by decide) ?_
        refine lv_aload_n (pc := 197) hx hb dH_link_197 rfl (lv_at hl 0 rfl) ?_
        refine j_get (pc := 198) (v := .ref (ad 4)) S hw inH 0 0 3 xg_0 rfl (by decide) k_165 rfl dH_link_198 ?_
        refine j_get (pc := 201) (v := .int (q12 100 3)) S hw inL 4 4 1 xg_4 rfl (by decide) k_135 rfl dH_link_201 ?_
        obtain ⟨rfl, rfl⟩ := jo0 hf
        exact j_iret (pc := 204) S hw hr hlk dH_link_204
      · replace hf := jif hf hs2
        refine lv_tableOut (pc := 108) (tgt := 189) hx hb dH_link_108 (by have h0 := lv_neT hs0 (a := 0) (by decide); have h0 := lv_neT hs1 (a := 1) (by decide); have h0 := lv_neT hs2 (a := 2) (by decide); omega) (by decide) ?_
        refine lv_aload_n (pc := 189) hx hb dH_link_189 rfl (lv_at hl 0 rfl) ?_
        refine j_get (pc := 190) (v := .ref (ad 4)) S hw inH 0 0 3 xg_0 rfl (by decide) k_165 rfl dH_link_190 ?_
        refine lv_iload_n (pc := 193) hx hb dH_link_193 rfl (lv_at hl 1 rfl) ?_
        have hg := jbn_e hf; clear hf; obtain ⟨q14, h15, hf⟩ := hg
        refine j_callv (pc := 194) (C := xC ca ad) (σ' := q14) hw hA (va_runV (As := [.int x1]) (rest := []) S (kL_put l D ca ad _ σ x1 q14 h15) (cwV 1 S.2.2.2.2 (jgV k_579 k_580 k_581 k_5 k_582) rfl rfl rfl (by decide +kernel) ⟨Nat.le_of_ble_eq_true rfl, Nat.le_of_ble_eq_true rfl⟩) (j_preV (As := [.int x1]) hw xN_b (xN_to hN hw hA) rfl xg_4) rfl rfl hl.1 rfl (lv_room (Nat.le_of_ble_eq_true rfl)) dH_link_194 ⟨Nat.le_of_ble_eq_true rfl, Nat.le_of_ble_eq_true rfl⟩) (fun H locs hw => ?_)
        refine lv_aload_n (pc := 197) hx hb dH_link_197 rfl (lv_at hl 0 rfl) ?_
        refine j_get (pc := 198) (v := .ref (ad 4)) S hw inH 0 0 3 xg_0 rfl (by decide) k_165 rfl dH_link_198 ?_
        refine j_get (pc := 201) (v := .int (q14 100 3)) S hw inL 4 4 1 xg_4 rfl (by decide) k_135 rfl dH_link_201 ?_
        obtain ⟨rfl, rfl⟩ := jo0 hf
        exact j_iret (pc := 204) S hw hr hlk dH_link_204
set_option maxHeartbeats 4000000 in
set_option maxRecDepth 100000 in
theorem wnmH_link_J83 {p : Program} {l : Launch} {e : Env} {s : State} {m : MethodId} {args : Array Value} {below : List Frame} {meth : Method} {c : Code} {D : va_G} {ca : Nat → ClassId} {ad : Nat → Nat} {A : Nat → Prop} (hA : ∀ q, s.heap.size ≤ q → A q) (S : CallFix p m c cH_link 4 s args jall RH) (hN : xN A s) (hr : meth.sig.returnType = some .int) (hlk : meth.locks = false) (vo : Int32) (σo : JS) (σ : JS) (x1 : Int32) (x2 : Int32) (x3 : Int32) (ls : Array Slot) (hl : lv_has ls 4 [(0, .ref (ad 0)), (1, .int x1), (2, .int x2), (3, .int x3)]) (hw : jH D (xT ca) (xC ca ad σ) A s.heap s.heap [] s) (hf : mH_link_J83 σ x1 x2 x3 = some (0, vo, σo)) : W p l e (headSpec wsH_link rmnH_link).room s m args below meth c s.heap [] 0 0 (MQ below (jQi D (xT ca) (xC ca ad) A vo σo) args s 0 0 A) (F0 m 83 ls []) := by
  have hx := S.1
  have hb := S.2.1
  unfold mH_link_J83 at hf
  refine lv_iload_n (pc := 83) hx hb dH_link_83 rfl (lv_at hl 3 rfl) ?_
  refine lv_if_eq (pc := 84) (tgt := 107) hx hb dH_link_84 (by decide) (fun hc => ?_) (fun hc => ?_)
  · replace hf := jit hf hc
    exact wnmH_link_J107 hA S hN hr hlk vo σo σ x1 x2 _ (lv_sub hl [0, 1, 2] rfl) hw hf
  · replace hf := jif hf hc
    refine lv_aload_n (pc := 87) hx hb dH_link_87 rfl (lv_at hl 0 rfl) ?_
    refine j_get (pc := 88) (v := .ref (ad 4)) S hw inH 0 0 3 xg_0 rfl (by decide) k_165 rfl dH_link_88 ?_
    refine j_get (pc := 91) (v := .int (σ 100 3)) S hw inL 4 4 1 xg_4 rfl (by decide) k_135 rfl dH_link_91 ?_
    refine lv_bipush (pc := 94) (v := (16 : Int32)) hx hb dH_link_94 (by decide) ?_
    refine lv_icmp_ne (pc := 96) (tgt := 107) hx hb dH_link_96 (by decide) (fun hc => ?_) (fun hc => ?_)
    · replace hf := jif hf hc
      exact wnmH_link_J107 hA S hN hr hlk vo σo σ x1 x2 _ (lv_sub hl [0, 1, 2] rfl) hw hf
    · replace hf := jit hf hc
      exact (jo2 hf).elim
set_option maxHeartbeats 4000000 in
set_option maxRecDepth 100000 in
theorem wnmH_link_J70 {p : Program} {l : Launch} {e : Env} {s : State} {m : MethodId} {args : Array Value} {below : List Frame} {meth : Method} {c : Code} {D : va_G} {ca : Nat → ClassId} {ad : Nat → Nat} {A : Nat → Prop} (hA : ∀ q, s.heap.size ≤ q → A q) (S : CallFix p m c cH_link 4 s args jall RH) (hN : xN A s) (hr : meth.sig.returnType = some .int) (hlk : meth.locks = false) (vo : Int32) (σo : JS) (σ : JS) (x1 : Int32) (x2 : Int32) (y0 : Int32) (ls : Array Slot) (hl : lv_has ls 4 [(0, .ref (ad 0)), (1, .int x1), (2, .int x2)]) (hw : jH D (xT ca) (xC ca ad σ) A s.heap s.heap [] s) (hf : mH_link_J70 σ x1 x2 y0 = some (0, vo, σo)) : W p l e (headSpec wsH_link rmnH_link).room s m args below meth c s.heap [] 0 0 (MQ below (jQi D (xT ca) (xC ca ad) A vo σo) args s 0 0 A) (F0 m 70 ls [.int y0]) := by
  have hx := S.1
  have hb := S.2.1
  unfold mH_link_J70 at hf
  refine lv_istore_n (pc := 70) (lv' := [(3, .int y0), (0, .ref (ad 0)), (1, .int x1), (2, .int x2)]) hx hb dH_link_70 rfl hl (by decide) rfl (fun ls hl => ?_)
  refine lv_iload_n (pc := 71) hx hb dH_link_71 rfl (lv_at hl 3 rfl) ?_
  refine lv_iconst (pc := 72) (v := (3 : Int32)) hx hb dH_link_72 (by decide) ?_
  refine lv_icmp_ne (pc := 73) (tgt := 83) hx hb dH_link_73 (by decide) (fun hc => ?_) (fun hc => ?_)
  · replace hf := jif hf hc
    exact wnmH_link_J83 hA S hN hr hlk vo σo σ x1 x2 y0 _ (lv_sub hl [1, 2, 3, 0] rfl) hw hf
  · replace hf := jit hf hc
    refine lv_aload_n (pc := 76) hx hb dH_link_76 rfl (lv_at hl 1 rfl) ?_
    refine j_get (pc := 77) (v := .int (σ 100 8)) S hw inH 0 0 11 xg_0 rfl (by decide) k_173 rfl dH_link_77 ?_
    refine lv_if_eq (pc := 80) (tgt := 99) hx hb dH_link_80 (by decide) (fun hc => ?_) (fun hc => ?_)
    · replace hf := jit hf hc
      exact (jo2 hf).elim
    · replace hf := jif hf hc
      exact wnmH_link_J83 hA S hN hr hlk vo σo σ x1 x2 y0 _ (lv_sub hl [1, 2, 3, 0] rfl) hw hf
set_option maxHeartbeats 4000000 in
set_option maxRecDepth 100000 in
theorem wnmH_link_J65 {p : Program} {l : Launch} {e : Env} {s : State} {m : MethodId} {args : Array Value} {below : List Frame} {meth : Method} {c : Code} {D : va_G} {ca : Nat → ClassId} {ad : Nat → Nat} {A : Nat → Prop} (hA : ∀ q, s.heap.size ≤ q → A q) (S : CallFix p m c cH_link 4 s args jall RH) (hN : xN A s) (hr : meth.sig.returnType = some .int) (hlk : meth.locks = false) (vo : Int32) (σo : JS) (σ : JS) (x1 : Int32) (x2 : Int32) (ls : Array Slot) (hl : lv_has ls 4 [(0, .ref (ad 0)), (1, .int x1), (2, .int x2)]) (hw : jH D (xT ca) (xC ca ad σ) A s.heap s.heap [] s) (hf : mH_link_J65 σ x1 x2 = some (0, vo, σo)) : W p l e (headSpec wsH_link rmnH_link).room s m args below meth c s.heap [] 0 0 (MQ below (jQi D (xT ca) (xC ca ad) A vo σo) args s 0 0 A) (F0 m 65 ls []) := by
  have hx := S.1
  have hb := S.2.1
  unfold mH_link_J65 at hf
  refine lv_iconst (pc := 65) (v := (1 : Int32)) hx hb dH_link_65 (by decide) ?_
  refine lv_goto (pc := 66) (tgt := 70) hx hb dH_link_66 (by decide) ?_
  exact wnmH_link_J70 hA S hN hr hlk vo σo σ x1 x2 (1 : Int32) _ (lv_sub hl [0, 1, 2] rfl) hw hf
set_option maxHeartbeats 4000000 in
set_option maxRecDepth 100000 in
theorem wnmH_link_J55 {p : Program} {l : Launch} {e : Env} {s : State} {m : MethodId} {args : Array Value} {below : List Frame} {meth : Method} {c : Code} {D : va_G} {ca : Nat → ClassId} {ad : Nat → Nat} {A : Nat → Prop} (hA : ∀ q, s.heap.size ≤ q → A q) (S : CallFix p m c cH_link 4 s args jall RH) (hN : xN A s) (hr : meth.sig.returnType = some .int) (hlk : meth.locks = false) (vo : Int32) (σo : JS) (σ : JS) (x1 : Int32) (x2 : Int32) (ls : Array Slot) (hl : lv_has ls 4 [(0, .ref (ad 0)), (1, .int x1), (2, .int x2)]) (hw : jH D (xT ca) (xC ca ad σ) A s.heap s.heap [] s) (hf : mH_link_J55 σ x1 x2 = some (0, vo, σo)) : W p l e (headSpec wsH_link rmnH_link).room s m args below meth c s.heap [] 0 0 (MQ below (jQi D (xT ca) (xC ca ad) A vo σo) args s 0 0 A) (F0 m 55 ls []) := by
  have hx := S.1
  have hb := S.2.1
  unfold mH_link_J55 at hf
  refine lv_iload_n (pc := 55) hx hb dH_link_55 rfl (lv_at hl 2 rfl) ?_
  refine lv_iconst (pc := 56) (v := (3 : Int32)) hx hb dH_link_56 (by decide) ?_
  refine lv_icmp_eq (pc := 57) (tgt := 65) hx hb dH_link_57 (by decide) (fun hc => ?_) (fun hc => ?_)
  · replace hf := jit hf hc
    exact wnmH_link_J65 hA S hN hr hlk vo σo σ x1 x2 _ (lv_sub hl [0, 1, 2] rfl) hw hf
  · replace hf := jif hf hc
    refine lv_iload_n (pc := 60) hx hb dH_link_60 rfl (lv_at hl 2 rfl) ?_
    refine lv_iconst (pc := 61) (v := (2 : Int32)) hx hb dH_link_61 (by decide) ?_
    refine lv_icmp_ne (pc := 62) (tgt := 69) hx hb dH_link_62 (by decide) (fun hc => ?_) (fun hc => ?_)
    · replace hf := jif hf hc
      refine lv_iconst (pc := 69) (v := (0 : Int32)) hx hb dH_link_69 (by decide) ?_
      exact wnmH_link_J70 hA S hN hr hlk vo σo σ x1 x2 (0 : Int32) _ (lv_sub hl [0, 1, 2] rfl) hw hf
    · replace hf := jit hf hc
      exact wnmH_link_J65 hA S hN hr hlk vo σo σ x1 x2 _ (lv_sub hl [0, 1, 2] rfl) hw hf
set_option maxHeartbeats 4000000 in
set_option maxRecDepth 100000 in
theorem bnH_link {p : Program} {l : Launch} {e : Env} {s : State} {m : MethodId} {args : Array Value} {below : List Frame} {meth : Method} {c : Code} {D : va_G} {ca : Nat → ClassId} {ad : Nat → Nat} {A : Nat → Prop} (hA : ∀ q, s.heap.size ≤ q → A q) (S : CallFix p m c cH_link 4 s args jall RH) (hN : xN A s) (hr : meth.sig.returnType = some .int) (hlk : meth.locks = false) (vo : Int32) (σo : JS) (σ : JS) (x1 : Int32) (x2 : Int32) (ls : Array Slot) (hl : lv_has ls 4 [(0, .ref (ad 0)), (1, .int x1), (2, .int x2)]) (hw : jH D (xT ca) (xC ca ad σ) A s.heap s.heap [] s) (hf : mH_link σ x1 x2 = some (0, vo, σo)) : W p l e (headSpec wsH_link rmnH_link).room s m args below meth c s.heap [] 0 0 (MQ below (jQi D (xT ca) (xC ca ad) A vo σo) args s 0 0 A) (F0 m 0 ls []) := by
  have hx := S.1
  have hb := S.2.1
  unfold mH_link at hf
  refine lv_iload_n (pc := 0) hx hb dH_link_0 rfl (lv_at hl 2 rfl) ?_
  refine lv_if_lt (pc := 1) (tgt := 9) hx hb dH_link_1 (by decide) (fun hc => ?_) (fun hc => ?_)
  · replace hf := jit hf hc
    exact (jo2 hf).elim
  · replace hf := jif hf hc
    refine lv_iload_n (pc := 4) hx hb dH_link_4 rfl (lv_at hl 2 rfl) ?_
    refine lv_iconst (pc := 5) (v := (3 : Int32)) hx hb dH_link_5 (by decide) ?_
    refine lv_icmp_le (pc := 6) (tgt := 17) hx hb dH_link_6 (by decide) (fun hc => ?_) (fun hc => ?_)
    · replace hf := jit hf hc
      refine lv_iload_n (pc := 17) hx hb dH_link_17 rfl (lv_at hl 2 rfl) ?_
      refine lv_iconst (pc := 18) (v := (3 : Int32)) hx hb dH_link_18 (by decide) ?_
      refine lv_icmp_ne (pc := 19) (tgt := 36) hx hb dH_link_19 (by decide) (fun hc => ?_) (fun hc => ?_)
      · replace hf := jif hf hc
        refine lv_aload_n (pc := 36) hx hb dH_link_36 rfl (lv_at hl 0 rfl) ?_
        refine j_get (pc := 37) (v := .ref (ad 4)) S hw inH 0 0 3 xg_0 rfl (by decide) k_165 rfl dH_link_37 ?_
        refine lv_iload_n (pc := 40) hx hb dH_link_40 rfl (lv_at hl 1 rfl) ?_
        have hg := jbn_e hf; clear hf; obtain ⟨q1, h2, hf⟩ := hg
        refine j_cpi (pc := 41) (v := q1) (va_runV (As := [.int x1]) (rest := []) S (kL_isLetter l D ca ad _ σ x1 q1 h2) (cwV 1 S.2.2.2.2 (jgV k_566 k_567 k_568 k_5 k_569) rfl rfl rfl (by decide +kernel) ⟨Nat.le_of_ble_eq_true rfl, Nat.le_of_ble_eq_true rfl⟩) (j_preV (As := [.int x1]) hw xN_b (xN_to hN hw hA) rfl xg_4) rfl rfl hl.1 rfl (lv_room (Nat.le_of_ble_eq_true rfl)) dH_link_41 ⟨Nat.le_of_ble_eq_true rfl, Nat.le_of_ble_eq_true rfl⟩) ?_
        refine lv_if_ne (pc := 44) (tgt := 55) hx hb dH_link_44 (by decide) (fun hc => ?_) (fun hc => ?_)
        · replace hf := jif hf hc
          exact wnmH_link_J55 hA S hN hr hlk vo σo σ x1 x2 _ (lv_sub hl [0, 1, 2] rfl) hw hf
        · replace hf := jit hf hc
          exact (jo2 hf).elim
      · replace hf := jit hf hc
        refine lv_aload_n (pc := 22) hx hb dH_link_22 rfl (lv_at hl 0 rfl) ?_
        refine j_get (pc := 23) (v := .ref (ad 1)) S hw inH 0 0 0 xg_0 rfl (by decide) k_162 rfl dH_link_23 ?_
        refine lv_iload_n (pc := 26) hx hb dH_link_26 rfl (lv_at hl 1 rfl) ?_
        have hg := jbn_e hf; clear hf; obtain ⟨q16, h17, hf⟩ := hg
        refine j_cpi (pc := 27) (v := q16) (va_runV (As := [.int x1]) (rest := []) S (kJ_isKept l D ca ad _ σ x1 q16 h17) (cwV 1 S.2.2.2.2 (jgV k_239 k_240 k_241 k_2 k_242) rfl rfl rfl (by decide +kernel) ⟨Nat.le_of_ble_eq_true rfl, Nat.le_of_ble_eq_true rfl⟩) (j_preV (As := [.int x1]) hw xN_b (xN_to hN hw hA) rfl xg_1) rfl rfl hl.1 rfl (lv_room (Nat.le_of_ble_eq_true rfl)) dH_link_27 ⟨Nat.le_of_ble_eq_true rfl, Nat.le_of_ble_eq_true rfl⟩) ?_
        refine lv_if_ne (pc := 30) (tgt := 55) hx hb dH_link_30 (by decide) (fun hc => ?_) (fun hc => ?_)
        · replace hf := jif hf hc
          exact wnmH_link_J55 hA S hN hr hlk vo σo σ x1 x2 _ (lv_sub hl [0, 1, 2] rfl) hw hf
        · replace hf := jit hf hc
          refine lv_goto (pc := 33) (tgt := 47) hx hb dH_link_33 (by decide) ?_
          exact (jo2 hf).elim
    · replace hf := jif hf hc
      exact (jo2 hf).elim
set_option maxHeartbeats 4000000 in
set_option maxRecDepth 100000 in
theorem knH_link (l : Launch) (D : va_G) (ca : Nat → ClassId) (ad : Nat → Nat) (sz : Nat) (σ : JS) (x1 : Int32) (x2 : Int32) (vo : Int32) (σo : JS) (hf : mH_link σ x1 x2 = some (0, vo, σo)) : Met l yH_link wsH_link rmnH_link (jPre D (xT ca) (xC ca ad σ) (xN (va_A (xC ca ad σ) sz)) sz [.ref (ad 0), .int x1, .int x2]) (jQi D (xT ca) (xC ca ad) (va_A (xC ca ad σ) sz) vo σo) 0 0 (va_A (xC ca ad σ) sz) := by
  refine Met.ofW (cc := cH_link) (maxL := 4) (ret := some .int) (by decide) rfl ?_
  intro p e s m args below meth c s₁ B hml hv
  obtain ⟨rfl, hsz, hP, hK, hD0, hN⟩ := hv
  subst hsz
  have hl := lv_entry [.ref (ad 0), .int x1, .int x2] (n := 4) (Nat.le_of_ble_eq_true rfl)
  rw [lg_entry_eq]
  generalize (lg_sl [.ref (ad 0), .int x1, .int x2] ++ List.replicate (4 - (lg_sl [.ref (ad 0), .int x1, .int x2]).length) Slot.unset).toArray = ls at hl ⊢
  exact bnH_link (fun q h => Or.inr h) ⟨B.exec, B.bytes, hml, findClass_of_methodNamed B.named, fun w h => atoms_spec (ws := wsH_link) B.pre w (List.mem_cons_of_mem _ h)⟩ hN B.returns B.notSynchronized vo σo σ x1 x2 ls hl ⟨hP, hD0.self, va_S.rf, hK⟩ hf
set_option maxHeartbeats 4000000 in
set_option maxRecDepth 100000 in
theorem wxmH_link_J107 {p : Program} {l : Launch} {e : Env} {s : State} {m : MethodId} {args : Array Value} {below : List Frame} {meth : Method} {c : Code} {D : va_G} {ca : Nat → ClassId} {ad : Nat → Nat} {A : Nat → Prop} (hA : ∀ q, s.heap.size ≤ q → A q) (S : CallFix p m c cH_link 4 s args jall RH) (hN : xN A s) (hr : meth.sig.returnType = some .int) (hlk : meth.locks = false) (hl9 : l.stackTraces = false) (ht9 : ∀ x ∈ c.exceptionTable.toList, False) (ko : Nat) (vo : Int32) (σo : JS) (hko : ¬ ko = 0) (σ : JS) (x1 : Int32) (x2 : Int32) (ls : Array Slot) (hl : lv_has ls 4 [(0, .ref (ad 0)), (1, .int x1), (2, .int x2)]) (hw : jH D (xT ca) (xC ca ad σ) A s.heap s.heap [] s) (hf : mH_link_J107 σ x1 x2 = some (ko, vo, σo)) : W p l e (headSpec wsH_link rmxH_link).room s m args below meth c s.heap [] 0 0 (jxQ below s (jE ko) (jB D (xT ca) (xC ca ad) A σo) A 1 6) (F0 m 107 ls []) := by
  have hx := S.1
  have hb := S.2.1
  unfold mH_link_J107 at hf
  refine lv_iload_n (pc := 107) hx hb dH_link_107 rfl (lv_at hl 2 rfl) ?_
  by_cases hs0 : x2 = (0 : Int32)
  · replace hf := jit hf hs0
    refine lv_tableIn (pc := 108) (tgt := 136) hx hb dH_link_108 (by rw [hs0]; decide) (by rw [hs0]; decide) (by rw [hs0]; rfl) (by decide) ?_
    refine lv_aload_n (pc := 136) hx hb dH_link_136 rfl (lv_at hl 0 rfl) ?_
    refine j_get (pc := 137) (v := .ref (ad 5)) S hw inH 0 0 4 xg_0 rfl (by decide) k_166 rfl dH_link_137 ?_
    refine lv_aload_n (pc := 140) hx hb dH_link_140 rfl (lv_at hl 0 rfl) ?_
    refine j_get (pc := 141) (v := .ref (ad 4)) S hw inH 0 0 3 xg_0 rfl (by decide) k_165 rfl dH_link_141 ?_
    refine lv_iload_n (pc := 144) hx hb dH_link_144 rfl (lv_at hl 1 rfl) ?_
    have hg := jbn_e hf; clear hf; obtain ⟨q3, h4, hf⟩ := hg
    refine j_calli (pc := 145) (C := xC ca ad) (σ' := q3.2) (v := q3.1) hw hA (va_runV (As := [.int x1]) (rest := [.ref (ad 5)]) S (kL_take l D ca ad _ σ x1 q3 h4) (cwV 1 S.2.2.2.2 (jgV k_570 k_571 k_572 k_5 k_573) rfl rfl rfl (by decide +kernel) ⟨Nat.le_of_ble_eq_true rfl, Nat.le_of_ble_eq_true rfl⟩) (j_preV (As := [.int x1]) hw xN_b (xN_to hN hw hA) rfl xg_4) rfl rfl hl.1 rfl (lv_room (Nat.le_of_ble_eq_true rfl)) dH_link_145 ⟨Nat.le_of_ble_eq_true rfl, Nat.le_of_ble_eq_true rfl⟩) (fun H locs hw => ?_)
    refine lv_aload_n (pc := 148) hx hb dH_link_148 rfl (lv_at hl 0 rfl) ?_
    refine j_get (pc := 149) (v := .ref (ad 1)) S hw inH 0 0 0 xg_0 rfl (by decide) k_162 rfl dH_link_149 ?_
    have hg := jbn_e hf; clear hf; obtain ⟨q5, h6, hf⟩ := hg
    refine j_callv (pc := 152) (C := xC ca ad) (σ' := q5) hw hA (va_runV (As := [.int q3.1, .ref (ad 1)]) (rest := []) S (kR_receive l D ca ad _ q3.2 q3.1 q5 h6) (cwV 2 S.2.2.2.2 (jgV k_575 k_576 k_577 k_6 k_578) rfl rfl rfl (by decide +kernel) ⟨Nat.le_of_ble_eq_true rfl, Nat.le_of_ble_eq_true rfl⟩) (j_preV (As := [.int q3.1, .ref (ad 1)]) hw xN_b (xN_to hN hw hA) rfl xg_5) rfl rfl hl.1 rfl (lv_room (Nat.le_of_ble_eq_true rfl)) dH_link_152 ⟨Nat.le_of_ble_eq_true rfl, Nat.le_of_ble_eq_true rfl⟩) (fun H locs hw => ?_)
    refine lv_goto (pc := 155) (tgt := 197) hx hb dH_link_155 (by decide) ?_
    refine lv_aload_n (pc := 197) hx hb dH_link_197 rfl (lv_at hl 0 rfl) ?_
    refine j_get (pc := 198) (v := .ref (ad 4)) S hw inH 0 0 3 xg_0 rfl (by decide) k_165 rfl dH_link_198 ?_
    refine j_get (pc := 201) (v := .int (q5 100 3)) S hw inL 4 4 1 xg_4 rfl (by decide) k_135 rfl dH_link_201 ?_
    exact absurd (jo1 hf) hko
  · replace hf := jif hf hs0
    by_cases hs1 : x2 = (1 : Int32)
    · replace hf := jit hf hs1
      refine lv_tableIn (pc := 108) (tgt := 158) hx hb dH_link_108 (by rw [hs1]; decide) (by rw [hs1]; decide) (by rw [hs1]; rfl) (by decide) ?_
      refine lv_aload_n (pc := 158) hx hb dH_link_158 rfl (lv_at hl 0 rfl) ?_
      refine j_get (pc := 159) (v := .ref (ad 4)) S hw inH 0 0 3 xg_0 rfl (by decide) k_165 rfl dH_link_159 ?_
      refine lv_iload_n (pc := 162) hx hb dH_link_162 rfl (lv_at hl 1 rfl) ?_
      have hg := jbn_e hf; clear hf; obtain ⟨q7, h8, hf⟩ := hg
      refine j_calli (pc := 163) (C := xC ca ad) (σ' := q7.2) (v := q7.1) hw hA (va_runV (As := [.int x1]) (rest := []) S (kL_take l D ca ad _ σ x1 q7 h8) (cwV 1 S.2.2.2.2 (jgV k_570 k_571 k_572 k_5 k_573) rfl rfl rfl (by decide +kernel) ⟨Nat.le_of_ble_eq_true rfl, Nat.le_of_ble_eq_true rfl⟩) (j_preV (As := [.int x1]) hw xN_b (xN_to hN hw hA) rfl xg_4) rfl rfl hl.1 rfl (lv_room (Nat.le_of_ble_eq_true rfl)) dH_link_163 ⟨Nat.le_of_ble_eq_true rfl, Nat.le_of_ble_eq_true rfl⟩) (fun H locs hw => ?_)
      refine lv_pop (pc := 166) hx hb dH_link_166 rfl ?_
      refine lv_goto (pc := 167) (tgt := 197) hx hb dH_link_167 (by decide) ?_
      refine lv_aload_n (pc := 197) hx hb dH_link_197 rfl (lv_at hl 0 rfl) ?_
      refine j_get (pc := 198) (v := .ref (ad 4)) S hw inH 0 0 3 xg_0 rfl (by decide) k_165 rfl dH_link_198 ?_
      refine j_get (pc := 201) (v := .int (q7.2 100 3)) S hw inL 4 4 1 xg_4 rfl (by decide) k_135 rfl dH_link_201 ?_
      exact absurd (jo1 hf) hko
    · replace hf := jif hf hs1
      by_cases hs2 : x2 = (2 : Int32)
      · replace hf := jit hf hs2
        refine lv_tableIn (pc := 108) (tgt := 170) hx hb dH_link_108 (by rw [hs2]; decide) (by rw [hs2]; decide) (by rw [hs2]; rfl) (by decide) ?_
        refine lv_aload_n (pc := 170) hx hb dH_link_170 rfl (lv_at hl 0 rfl) ?_
        refine j_get (pc := 171) (v := .ref (ad 4)) S hw inH 0 0 3 xg_0 rfl (by decide) k_165 rfl dH_link_171 ?_
        refine lv_aload_n (pc := 174) hx hb dH_link_174 rfl (lv_at hl 0 rfl) ?_
        refine j_get (pc := 175) (v := .ref (ad 4)) S hw inH 0 0 3 xg_0 rfl (by decide) k_165 rfl dH_link_175 ?_
        refine j_get (pc := 178) (v := .ref (ad 23)) S hw inL 4 4 0 xg_4 rfl (by decide) k_133 rfl dH_link_178 ?_
        refine lv_iload_n (pc := 181) hx hb dH_link_181 rfl (lv_at hl 1 rfl) ?_
        have hg := jrd_e hf; clear hf; obtain ⟨h10, v9, e11, hf⟩ := hg
        refine j_iald (pc := 182) S hw 23 17 xg_23 xt_23 h10 e11 dH_link_182 ?_
        have hg := jbn_e hf; clear hf; obtain ⟨q12, h13, hf⟩ := hg
        refine j_callv (pc := 183) (C := xC ca ad) (σ' := q12) hw hA (va_runV (As := [.int v9]) (rest := []) S (kL_put l D ca ad _ σ v9 q12 h13) (cwV 1 S.2.2.2.2 (jgV k_579 k_580 k_581 k_5 k_582) rfl rfl rfl (by decide +kernel) ⟨Nat.le_of_ble_eq_true rfl, Nat.le_of_ble_eq_true rfl⟩) (j_preV (As := [.int v9]) hw xN_b (xN_to hN hw hA) rfl xg_4) rfl rfl hl.1 rfl (lv_room (Nat.le_of_ble_eq_true rfl)) dH_link_183 ⟨Nat.le_of_ble_eq_true rfl, Nat.le_of_ble_eq_true rfl⟩) (fun H locs hw => ?_)
        refine lv_goto (pc := 186) (tgt := 197) hx hb dH_link_186 (by decide) ?_
        refine lv_aload_n (pc := 197) hx hb dH_link_197 rfl (lv_at hl 0 rfl) ?_
        refine j_get (pc := 198) (v := .ref (ad 4)) S hw inH 0 0 3 xg_0 rfl (by decide) k_165 rfl dH_link_198 ?_
        refine j_get (pc := 201) (v := .int (q12 100 3)) S hw inL 4 4 1 xg_4 rfl (by decide) k_135 rfl dH_link_201 ?_
        exact absurd (jo1 hf) hko
      · replace hf := jif hf hs2
        refine lv_tableOut (pc := 108) (tgt := 189) hx hb dH_link_108 (by have h0 := lv_neT hs0 (a := 0) (by decide); have h0 := lv_neT hs1 (a := 1) (by decide); have h0 := lv_neT hs2 (a := 2) (by decide); omega) (by decide) ?_
        refine lv_aload_n (pc := 189) hx hb dH_link_189 rfl (lv_at hl 0 rfl) ?_
        refine j_get (pc := 190) (v := .ref (ad 4)) S hw inH 0 0 3 xg_0 rfl (by decide) k_165 rfl dH_link_190 ?_
        refine lv_iload_n (pc := 193) hx hb dH_link_193 rfl (lv_at hl 1 rfl) ?_
        have hg := jbn_e hf; clear hf; obtain ⟨q14, h15, hf⟩ := hg
        refine j_callv (pc := 194) (C := xC ca ad) (σ' := q14) hw hA (va_runV (As := [.int x1]) (rest := []) S (kL_put l D ca ad _ σ x1 q14 h15) (cwV 1 S.2.2.2.2 (jgV k_579 k_580 k_581 k_5 k_582) rfl rfl rfl (by decide +kernel) ⟨Nat.le_of_ble_eq_true rfl, Nat.le_of_ble_eq_true rfl⟩) (j_preV (As := [.int x1]) hw xN_b (xN_to hN hw hA) rfl xg_4) rfl rfl hl.1 rfl (lv_room (Nat.le_of_ble_eq_true rfl)) dH_link_194 ⟨Nat.le_of_ble_eq_true rfl, Nat.le_of_ble_eq_true rfl⟩) (fun H locs hw => ?_)
        refine lv_aload_n (pc := 197) hx hb dH_link_197 rfl (lv_at hl 0 rfl) ?_
        refine j_get (pc := 198) (v := .ref (ad 4)) S hw inH 0 0 3 xg_0 rfl (by decide) k_165 rfl dH_link_198 ?_
        refine j_get (pc := 201) (v := .int (q14 100 3)) S hw inL 4 4 1 xg_4 rfl (by decide) k_135 rfl dH_link_201 ?_
        exact absurd (jo1 hf) hko
set_option maxHeartbeats 4000000 in
set_option maxRecDepth 100000 in
theorem wxmH_link_J83 {p : Program} {l : Launch} {e : Env} {s : State} {m : MethodId} {args : Array Value} {below : List Frame} {meth : Method} {c : Code} {D : va_G} {ca : Nat → ClassId} {ad : Nat → Nat} {A : Nat → Prop} (hA : ∀ q, s.heap.size ≤ q → A q) (S : CallFix p m c cH_link 4 s args jall RH) (hN : xN A s) (hr : meth.sig.returnType = some .int) (hlk : meth.locks = false) (hl9 : l.stackTraces = false) (ht9 : ∀ x ∈ c.exceptionTable.toList, False) (ko : Nat) (vo : Int32) (σo : JS) (hko : ¬ ko = 0) (σ : JS) (x1 : Int32) (x2 : Int32) (x3 : Int32) (ls : Array Slot) (hl : lv_has ls 4 [(0, .ref (ad 0)), (1, .int x1), (2, .int x2), (3, .int x3)]) (hw : jH D (xT ca) (xC ca ad σ) A s.heap s.heap [] s) (hf : mH_link_J83 σ x1 x2 x3 = some (ko, vo, σo)) : W p l e (headSpec wsH_link rmxH_link).room s m args below meth c s.heap [] 0 0 (jxQ below s (jE ko) (jB D (xT ca) (xC ca ad) A σo) A 1 6) (F0 m 83 ls []) := by
  have hx := S.1
  have hb := S.2.1
  unfold mH_link_J83 at hf
  refine lv_iload_n (pc := 83) hx hb dH_link_83 rfl (lv_at hl 3 rfl) ?_
  refine lv_if_eq (pc := 84) (tgt := 107) hx hb dH_link_84 (by decide) (fun hc => ?_) (fun hc => ?_)
  · replace hf := jit hf hc
    exact wxmH_link_J107 hA S hN hr hlk hl9 ht9 ko vo σo hko σ x1 x2 _ (lv_sub hl [0, 1, 2] rfl) hw hf
  · replace hf := jif hf hc
    refine lv_aload_n (pc := 87) hx hb dH_link_87 rfl (lv_at hl 0 rfl) ?_
    refine j_get (pc := 88) (v := .ref (ad 4)) S hw inH 0 0 3 xg_0 rfl (by decide) k_165 rfl dH_link_88 ?_
    refine j_get (pc := 91) (v := .int (σ 100 3)) S hw inL 4 4 1 xg_4 rfl (by decide) k_135 rfl dH_link_91 ?_
    refine lv_bipush (pc := 94) (v := (16 : Int32)) hx hb dH_link_94 (by decide) ?_
    refine lv_icmp_ne (pc := 96) (tgt := 107) hx hb dH_link_96 (by decide) (fun hc => ?_) (fun hc => ?_)
    · replace hf := jif hf hc
      exact wxmH_link_J107 hA S hN hr hlk hl9 ht9 ko vo σo hko σ x1 x2 _ (lv_sub hl [0, 1, 2] rfl) hw hf
    · replace hf := jit hf hc
      obtain ⟨rfl, rfl, rfl⟩ := jo4 hf
      exact jx_throw (pc := 99) (own := RH) (cls := jE 2) (names := jnm) (ik := 68) (ic := 70) hx hb hl9 S.2.2.2.1 (by decide +kernel) (by decide +kernel) (S.2.2.2.2 _ k_340) (S.2.2.2.2 _ k_12) (jxw_of S hN jxw2) (hl.1.trans S.2.2.1.symm) dH_link_99 dH_link_102 dH_link_103 dH_link_106 ht9 (Nat.le_of_ble_eq_true rfl) (Nat.le_of_ble_eq_true rfl) (Nat.le_of_ble_eq_true rfl) (Nat.le_of_ble_eq_true rfl) hlk (Nat.le_refl _) (Nat.le_refl _) (jB_kept hw)
set_option maxHeartbeats 4000000 in
set_option maxRecDepth 100000 in
theorem wxmH_link_J70 {p : Program} {l : Launch} {e : Env} {s : State} {m : MethodId} {args : Array Value} {below : List Frame} {meth : Method} {c : Code} {D : va_G} {ca : Nat → ClassId} {ad : Nat → Nat} {A : Nat → Prop} (hA : ∀ q, s.heap.size ≤ q → A q) (S : CallFix p m c cH_link 4 s args jall RH) (hN : xN A s) (hr : meth.sig.returnType = some .int) (hlk : meth.locks = false) (hl9 : l.stackTraces = false) (ht9 : ∀ x ∈ c.exceptionTable.toList, False) (ko : Nat) (vo : Int32) (σo : JS) (hko : ¬ ko = 0) (σ : JS) (x1 : Int32) (x2 : Int32) (y0 : Int32) (ls : Array Slot) (hl : lv_has ls 4 [(0, .ref (ad 0)), (1, .int x1), (2, .int x2)]) (hw : jH D (xT ca) (xC ca ad σ) A s.heap s.heap [] s) (hf : mH_link_J70 σ x1 x2 y0 = some (ko, vo, σo)) : W p l e (headSpec wsH_link rmxH_link).room s m args below meth c s.heap [] 0 0 (jxQ below s (jE ko) (jB D (xT ca) (xC ca ad) A σo) A 1 6) (F0 m 70 ls [.int y0]) := by
  have hx := S.1
  have hb := S.2.1
  unfold mH_link_J70 at hf
  refine lv_istore_n (pc := 70) (lv' := [(3, .int y0), (0, .ref (ad 0)), (1, .int x1), (2, .int x2)]) hx hb dH_link_70 rfl hl (by decide) rfl (fun ls hl => ?_)
  refine lv_iload_n (pc := 71) hx hb dH_link_71 rfl (lv_at hl 3 rfl) ?_
  refine lv_iconst (pc := 72) (v := (3 : Int32)) hx hb dH_link_72 (by decide) ?_
  refine lv_icmp_ne (pc := 73) (tgt := 83) hx hb dH_link_73 (by decide) (fun hc => ?_) (fun hc => ?_)
  · replace hf := jif hf hc
    exact wxmH_link_J83 hA S hN hr hlk hl9 ht9 ko vo σo hko σ x1 x2 y0 _ (lv_sub hl [1, 2, 3, 0] rfl) hw hf
  · replace hf := jit hf hc
    refine lv_aload_n (pc := 76) hx hb dH_link_76 rfl (lv_at hl 1 rfl) ?_
    refine j_get (pc := 77) (v := .int (σ 100 8)) S hw inH 0 0 11 xg_0 rfl (by decide) k_173 rfl dH_link_77 ?_
    refine lv_if_eq (pc := 80) (tgt := 99) hx hb dH_link_80 (by decide) (fun hc => ?_) (fun hc => ?_)
    · replace hf := jit hf hc
      obtain ⟨rfl, rfl, rfl⟩ := jo4 hf
      exact jx_throw (pc := 99) (own := RH) (cls := jE 2) (names := jnm) (ik := 68) (ic := 70) hx hb hl9 S.2.2.2.1 (by decide +kernel) (by decide +kernel) (S.2.2.2.2 _ k_340) (S.2.2.2.2 _ k_12) (jxw_of S hN jxw2) (hl.1.trans S.2.2.1.symm) dH_link_99 dH_link_102 dH_link_103 dH_link_106 ht9 (Nat.le_of_ble_eq_true rfl) (Nat.le_of_ble_eq_true rfl) (Nat.le_of_ble_eq_true rfl) (Nat.le_of_ble_eq_true rfl) hlk (Nat.le_refl _) (Nat.le_refl _) (jB_kept hw)
    · replace hf := jif hf hc
      exact wxmH_link_J83 hA S hN hr hlk hl9 ht9 ko vo σo hko σ x1 x2 y0 _ (lv_sub hl [1, 2, 3, 0] rfl) hw hf
set_option maxHeartbeats 4000000 in
set_option maxRecDepth 100000 in
theorem wxmH_link_J65 {p : Program} {l : Launch} {e : Env} {s : State} {m : MethodId} {args : Array Value} {below : List Frame} {meth : Method} {c : Code} {D : va_G} {ca : Nat → ClassId} {ad : Nat → Nat} {A : Nat → Prop} (hA : ∀ q, s.heap.size ≤ q → A q) (S : CallFix p m c cH_link 4 s args jall RH) (hN : xN A s) (hr : meth.sig.returnType = some .int) (hlk : meth.locks = false) (hl9 : l.stackTraces = false) (ht9 : ∀ x ∈ c.exceptionTable.toList, False) (ko : Nat) (vo : Int32) (σo : JS) (hko : ¬ ko = 0) (σ : JS) (x1 : Int32) (x2 : Int32) (ls : Array Slot) (hl : lv_has ls 4 [(0, .ref (ad 0)), (1, .int x1), (2, .int x2)]) (hw : jH D (xT ca) (xC ca ad σ) A s.heap s.heap [] s) (hf : mH_link_J65 σ x1 x2 = some (ko, vo, σo)) : W p l e (headSpec wsH_link rmxH_link).room s m args below meth c s.heap [] 0 0 (jxQ below s (jE ko) (jB D (xT ca) (xC ca ad) A σo) A 1 6) (F0 m 65 ls []) := by
  have hx := S.1
  have hb := S.2.1
  unfold mH_link_J65 at hf
  refine lv_iconst (pc := 65) (v := (1 : Int32)) hx hb dH_link_65 (by decide) ?_
  refine lv_goto (pc := 66) (tgt := 70) hx hb dH_link_66 (by decide) ?_
  exact wxmH_link_J70 hA S hN hr hlk hl9 ht9 ko vo σo hko σ x1 x2 (1 : Int32) _ (lv_sub hl [0, 1, 2] rfl) hw hf
set_option maxHeartbeats 4000000 in
set_option maxRecDepth 100000 in
theorem wxmH_link_J55 {p : Program} {l : Launch} {e : Env} {s : State} {m : MethodId} {args : Array Value} {below : List Frame} {meth : Method} {c : Code} {D : va_G} {ca : Nat → ClassId} {ad : Nat → Nat} {A : Nat → Prop} (hA : ∀ q, s.heap.size ≤ q → A q) (S : CallFix p m c cH_link 4 s args jall RH) (hN : xN A s) (hr : meth.sig.returnType = some .int) (hlk : meth.locks = false) (hl9 : l.stackTraces = false) (ht9 : ∀ x ∈ c.exceptionTable.toList, False) (ko : Nat) (vo : Int32) (σo : JS) (hko : ¬ ko = 0) (σ : JS) (x1 : Int32) (x2 : Int32) (ls : Array Slot) (hl : lv_has ls 4 [(0, .ref (ad 0)), (1, .int x1), (2, .int x2)]) (hw : jH D (xT ca) (xC ca ad σ) A s.heap s.heap [] s) (hf : mH_link_J55 σ x1 x2 = some (ko, vo, σo)) : W p l e (headSpec wsH_link rmxH_link).room s m args below meth c s.heap [] 0 0 (jxQ below s (jE ko) (jB D (xT ca) (xC ca ad) A σo) A 1 6) (F0 m 55 ls []) := by
  have hx := S.1
  have hb := S.2.1
  unfold mH_link_J55 at hf
  refine lv_iload_n (pc := 55) hx hb dH_link_55 rfl (lv_at hl 2 rfl) ?_
  refine lv_iconst (pc := 56) (v := (3 : Int32)) hx hb dH_link_56 (by decide) ?_
  refine lv_icmp_eq (pc := 57) (tgt := 65) hx hb dH_link_57 (by decide) (fun hc => ?_) (fun hc => ?_)
  · replace hf := jit hf hc
    exact wxmH_link_J65 hA S hN hr hlk hl9 ht9 ko vo σo hko σ x1 x2 _ (lv_sub hl [0, 1, 2] rfl) hw hf
  · replace hf := jif hf hc
    refine lv_iload_n (pc := 60) hx hb dH_link_60 rfl (lv_at hl 2 rfl) ?_
    refine lv_iconst (pc := 61) (v := (2 : Int32)) hx hb dH_link_61 (by decide) ?_
    refine lv_icmp_ne (pc := 62) (tgt := 69) hx hb dH_link_62 (by decide) (fun hc => ?_) (fun hc => ?_)
    · replace hf := jif hf hc
      refine lv_iconst (pc := 69) (v := (0 : Int32)) hx hb dH_link_69 (by decide) ?_
      exact wxmH_link_J70 hA S hN hr hlk hl9 ht9 ko vo σo hko σ x1 x2 (0 : Int32) _ (lv_sub hl [0, 1, 2] rfl) hw hf
    · replace hf := jit hf hc
      exact wxmH_link_J65 hA S hN hr hlk hl9 ht9 ko vo σo hko σ x1 x2 _ (lv_sub hl [0, 1, 2] rfl) hw hf
set_option maxHeartbeats 4000000 in
set_option maxRecDepth 100000 in
theorem bxH_link {p : Program} {l : Launch} {e : Env} {s : State} {m : MethodId} {args : Array Value} {below : List Frame} {meth : Method} {c : Code} {D : va_G} {ca : Nat → ClassId} {ad : Nat → Nat} {A : Nat → Prop} (hA : ∀ q, s.heap.size ≤ q → A q) (S : CallFix p m c cH_link 4 s args jall RH) (hN : xN A s) (hr : meth.sig.returnType = some .int) (hlk : meth.locks = false) (hl9 : l.stackTraces = false) (ht9 : ∀ x ∈ c.exceptionTable.toList, False) (ko : Nat) (vo : Int32) (σo : JS) (hko : ¬ ko = 0) (σ : JS) (x1 : Int32) (x2 : Int32) (ls : Array Slot) (hl : lv_has ls 4 [(0, .ref (ad 0)), (1, .int x1), (2, .int x2)]) (hw : jH D (xT ca) (xC ca ad σ) A s.heap s.heap [] s) (hf : mH_link σ x1 x2 = some (ko, vo, σo)) : W p l e (headSpec wsH_link rmxH_link).room s m args below meth c s.heap [] 0 0 (jxQ below s (jE ko) (jB D (xT ca) (xC ca ad) A σo) A 1 6) (F0 m 0 ls []) := by
  have hx := S.1
  have hb := S.2.1
  unfold mH_link at hf
  refine lv_iload_n (pc := 0) hx hb dH_link_0 rfl (lv_at hl 2 rfl) ?_
  refine lv_if_lt (pc := 1) (tgt := 9) hx hb dH_link_1 (by decide) (fun hc => ?_) (fun hc => ?_)
  · replace hf := jit hf hc
    obtain ⟨rfl, rfl, rfl⟩ := jo4 hf
    exact jx_throw (pc := 9) (own := RH) (cls := jE 1) (names := jnm) (ik := 61) (ic := 63) hx hb hl9 S.2.2.2.1 (by decide +kernel) (by decide +kernel) (S.2.2.2.2 _ k_278) (S.2.2.2.2 _ k_11) (jxw_of S hN jxw1) (hl.1.trans S.2.2.1.symm) dH_link_9 dH_link_12 dH_link_13 dH_link_16 ht9 (Nat.le_of_ble_eq_true rfl) (Nat.le_of_ble_eq_true rfl) (Nat.le_of_ble_eq_true rfl) (Nat.le_of_ble_eq_true rfl) hlk (Nat.le_refl _) (Nat.le_refl _) (jB_kept hw)
  · replace hf := jif hf hc
    refine lv_iload_n (pc := 4) hx hb dH_link_4 rfl (lv_at hl 2 rfl) ?_
    refine lv_iconst (pc := 5) (v := (3 : Int32)) hx hb dH_link_5 (by decide) ?_
    refine lv_icmp_le (pc := 6) (tgt := 17) hx hb dH_link_6 (by decide) (fun hc => ?_) (fun hc => ?_)
    · replace hf := jit hf hc
      refine lv_iload_n (pc := 17) hx hb dH_link_17 rfl (lv_at hl 2 rfl) ?_
      refine lv_iconst (pc := 18) (v := (3 : Int32)) hx hb dH_link_18 (by decide) ?_
      refine lv_icmp_ne (pc := 19) (tgt := 36) hx hb dH_link_19 (by decide) (fun hc => ?_) (fun hc => ?_)
      · replace hf := jif hf hc
        refine lv_aload_n (pc := 36) hx hb dH_link_36 rfl (lv_at hl 0 rfl) ?_
        refine j_get (pc := 37) (v := .ref (ad 4)) S hw inH 0 0 3 xg_0 rfl (by decide) k_165 rfl dH_link_37 ?_
        refine lv_iload_n (pc := 40) hx hb dH_link_40 rfl (lv_at hl 1 rfl) ?_
        have hg := jbn_e hf; clear hf; obtain ⟨q1, h2, hf⟩ := hg
        refine j_cpi (pc := 41) (v := q1) (va_runV (As := [.int x1]) (rest := []) S (kL_isLetter l D ca ad _ σ x1 q1 h2) (cwV 1 S.2.2.2.2 (jgV k_566 k_567 k_568 k_5 k_569) rfl rfl rfl (by decide +kernel) ⟨Nat.le_of_ble_eq_true rfl, Nat.le_of_ble_eq_true rfl⟩) (j_preV (As := [.int x1]) hw xN_b (xN_to hN hw hA) rfl xg_4) rfl rfl hl.1 rfl (lv_room (Nat.le_of_ble_eq_true rfl)) dH_link_41 ⟨Nat.le_of_ble_eq_true rfl, Nat.le_of_ble_eq_true rfl⟩) ?_
        refine lv_if_ne (pc := 44) (tgt := 55) hx hb dH_link_44 (by decide) (fun hc => ?_) (fun hc => ?_)
        · replace hf := jif hf hc
          exact wxmH_link_J55 hA S hN hr hlk hl9 ht9 ko vo σo hko σ x1 x2 _ (lv_sub hl [0, 1, 2] rfl) hw hf
        · replace hf := jit hf hc
          obtain ⟨rfl, rfl, rfl⟩ := jo4 hf
          exact jx_throw (pc := 47) (own := RH) (cls := jE 1) (names := jnm) (ik := 61) (ic := 63) hx hb hl9 S.2.2.2.1 (by decide +kernel) (by decide +kernel) (S.2.2.2.2 _ k_278) (S.2.2.2.2 _ k_11) (jxw_of S hN jxw1) (hl.1.trans S.2.2.1.symm) dH_link_47 dH_link_50 dH_link_51 dH_link_54 ht9 (Nat.le_of_ble_eq_true rfl) (Nat.le_of_ble_eq_true rfl) (Nat.le_of_ble_eq_true rfl) (Nat.le_of_ble_eq_true rfl) hlk (Nat.le_refl _) (Nat.le_refl _) (jB_kept hw)
      · replace hf := jit hf hc
        refine lv_aload_n (pc := 22) hx hb dH_link_22 rfl (lv_at hl 0 rfl) ?_
        refine j_get (pc := 23) (v := .ref (ad 1)) S hw inH 0 0 0 xg_0 rfl (by decide) k_162 rfl dH_link_23 ?_
        refine lv_iload_n (pc := 26) hx hb dH_link_26 rfl (lv_at hl 1 rfl) ?_
        have hg := jbn_e hf; clear hf; obtain ⟨q16, h17, hf⟩ := hg
        refine j_cpi (pc := 27) (v := q16) (va_runV (As := [.int x1]) (rest := []) S (kJ_isKept l D ca ad _ σ x1 q16 h17) (cwV 1 S.2.2.2.2 (jgV k_239 k_240 k_241 k_2 k_242) rfl rfl rfl (by decide +kernel) ⟨Nat.le_of_ble_eq_true rfl, Nat.le_of_ble_eq_true rfl⟩) (j_preV (As := [.int x1]) hw xN_b (xN_to hN hw hA) rfl xg_1) rfl rfl hl.1 rfl (lv_room (Nat.le_of_ble_eq_true rfl)) dH_link_27 ⟨Nat.le_of_ble_eq_true rfl, Nat.le_of_ble_eq_true rfl⟩) ?_
        refine lv_if_ne (pc := 30) (tgt := 55) hx hb dH_link_30 (by decide) (fun hc => ?_) (fun hc => ?_)
        · replace hf := jif hf hc
          exact wxmH_link_J55 hA S hN hr hlk hl9 ht9 ko vo σo hko σ x1 x2 _ (lv_sub hl [0, 1, 2] rfl) hw hf
        · replace hf := jit hf hc
          refine lv_goto (pc := 33) (tgt := 47) hx hb dH_link_33 (by decide) ?_
          obtain ⟨rfl, rfl, rfl⟩ := jo4 hf
          exact jx_throw (pc := 47) (own := RH) (cls := jE 1) (names := jnm) (ik := 61) (ic := 63) hx hb hl9 S.2.2.2.1 (by decide +kernel) (by decide +kernel) (S.2.2.2.2 _ k_278) (S.2.2.2.2 _ k_11) (jxw_of S hN jxw1) (hl.1.trans S.2.2.1.symm) dH_link_47 dH_link_50 dH_link_51 dH_link_54 ht9 (Nat.le_of_ble_eq_true rfl) (Nat.le_of_ble_eq_true rfl) (Nat.le_of_ble_eq_true rfl) (Nat.le_of_ble_eq_true rfl) hlk (Nat.le_refl _) (Nat.le_refl _) (jB_kept hw)
    · replace hf := jif hf hc
      obtain ⟨rfl, rfl, rfl⟩ := jo4 hf
      exact jx_throw (pc := 9) (own := RH) (cls := jE 1) (names := jnm) (ik := 61) (ic := 63) hx hb hl9 S.2.2.2.1 (by decide +kernel) (by decide +kernel) (S.2.2.2.2 _ k_278) (S.2.2.2.2 _ k_11) (jxw_of S hN jxw1) (hl.1.trans S.2.2.1.symm) dH_link_9 dH_link_12 dH_link_13 dH_link_16 ht9 (Nat.le_of_ble_eq_true rfl) (Nat.le_of_ble_eq_true rfl) (Nat.le_of_ble_eq_true rfl) (Nat.le_of_ble_eq_true rfl) hlk (Nat.le_refl _) (Nat.le_refl _) (jB_kept hw)
set_option maxHeartbeats 4000000 in
set_option maxRecDepth 100000 in
theorem kxH_link (l : Launch) (hl9 : l.stackTraces = false) (D : va_G) (ca : Nat → ClassId) (ad : Nat → Nat) (sz : Nat) (σ : JS) (x1 : Int32) (x2 : Int32) (ko : Nat) (vo : Int32) (σo : JS) (hko : ¬ ko = 0) (hf : mH_link σ x1 x2 = some (ko, vo, σo)) : jxM l yH_link wsH_link rmxH_link (jPre D (xT ca) (xC ca ad σ) (xN (va_A (xC ca ad σ) sz)) sz [.ref (ad 0), .int x1, .int x2]) (jE ko) (jB D (xT ca) (xC ca ad) (va_A (xC ca ad σ) sz) σo) (va_A (xC ca ad σ) sz) 1 6 := by
  refine jxM_of (cc := cH_link) (maxL := 4) (ret := some .int) (by decide) rfl ?_
  intro p e s m args below meth c s₁ B hml hnil hv
  obtain ⟨rfl, hsz, hP, hK, hD0, hN⟩ := hv
  subst hsz
  have hl := lv_entry [.ref (ad 0), .int x1, .int x2] (n := 4) (Nat.le_of_ble_eq_true rfl)
  rw [lg_entry_eq]
  generalize (lg_sl [.ref (ad 0), .int x1, .int x2] ++ List.replicate (4 - (lg_sl [.ref (ad 0), .int x1, .int x2]).length) Slot.unset).toArray = ls at hl ⊢
  exact bxH_link (fun q h => Or.inr h) ⟨B.exec, B.bytes, hml, findClass_of_methodNamed B.named, fun w h => atoms_spec (ws := wsH_link) B.pre w (List.mem_cons_of_mem _ h)⟩ hN B.returns B.notSynchronized hl9 hnil ko vo σo hko σ x1 x2 ls hl ⟨hP, hD0.self, va_S.rf, hK⟩ hf

def rmnH_ack : Room := { frames := 6, cells := 0, slots := 0, locals := 85 }
def rmxH_ack : Room := { frames := 6, cells := 1, slots := 6, locals := 85 }
def mH_ack (σ : JS)  : Option (Nat × Int32 × JS) :=
  if (σ 100 8) = 0 then
  (some (2, 0, σ))
  else
  (jst (jw2 σ 100 7 (σ 100 4)) fun σ1 =>
  some (0, (σ1 100 7), σ1))
set_option maxHeartbeats 4000000 in
set_option maxRecDepth 100000 in
theorem bnH_ack {p : Program} {l : Launch} {e : Env} {s : State} {m : MethodId} {args : Array Value} {below : List Frame} {meth : Method} {c : Code} {D : va_G} {ca : Nat → ClassId} {ad : Nat → Nat} {A : Nat → Prop} (hA : ∀ q, s.heap.size ≤ q → A q) (S : CallFix p m c cH_ack 1 s args jall RH) (hN : xN A s) (hr : meth.sig.returnType = some .int) (hlk : meth.locks = false) (vo : Int32) (σo : JS) (σ : JS)  (ls : Array Slot) (hl : lv_has ls 1 [(0, .ref (ad 0))]) (hw : jH D (xT ca) (xC ca ad σ) A s.heap s.heap [] s) (hf : mH_ack σ  = some (0, vo, σo)) : W p l e (headSpec wsH_ack rmnH_ack).room s m args below meth c s.heap [] 0 0 (MQ below (jQi D (xT ca) (xC ca ad) A vo σo) args s 0 0 A) (F0 m 0 ls []) := by
  have hx := S.1
  have hb := S.2.1
  unfold mH_ack at hf
  refine lv_aload_n (pc := 0) hx hb dH_ack_0 rfl (lv_at hl 0 rfl) ?_
  refine j_get (pc := 1) (v := .int (σ 100 8)) S hw inH 0 0 11 xg_0 rfl (by decide) k_173 rfl dH_ack_1 ?_
  refine lv_if_ne (pc := 4) (tgt := 15) hx hb dH_ack_4 (by decide) (fun hc => ?_) (fun hc => ?_)
  · replace hf := jif hf hc
    refine lv_aload_n (pc := 15) hx hb dH_ack_15 rfl (lv_at hl 0 rfl) ?_
    refine lv_aload_n (pc := 16) hx hb dH_ack_16 rfl (lv_at hl 0 rfl) ?_
    refine j_get (pc := 17) (v := .ref (ad 5)) S hw inH 0 0 4 xg_0 rfl (by decide) k_166 rfl dH_ack_17 ?_
    refine j_get (pc := 20) (v := .int (σ 100 4)) S hw inR 5 5 2 xg_5 rfl (by decide) k_151 rfl dH_ack_20 ?_
    have hg := jst_e hf; clear hf; obtain ⟨σ1, e2, hf⟩ := hg
    refine j_put (pc := 23) (v := .int (σ 100 4)) (ws' := xC ca ad σ1) S hw inH tyH tyH_ok nmH 0 0 10 xg_0 rfl (by decide) k_172 rfl rfl rfl (Nat.le_of_ble_eq_true rfl) (by rw [e2]; exact xp_7) dH_ack_23 (fun H locs hw => ?_)
    refine lv_aload_n (pc := 26) hx hb dH_ack_26 rfl (lv_at hl 0 rfl) ?_
    refine j_get (pc := 27) (v := .int (σ1 100 7)) S hw inH 0 0 10 xg_0 rfl (by decide) k_172 rfl dH_ack_27 ?_
    obtain ⟨rfl, rfl⟩ := jo0 hf
    exact j_iret (pc := 30) S hw hr hlk dH_ack_30
  · replace hf := jit hf hc
    exact (jo2 hf).elim
set_option maxHeartbeats 4000000 in
set_option maxRecDepth 100000 in
theorem knH_ack (l : Launch) (D : va_G) (ca : Nat → ClassId) (ad : Nat → Nat) (sz : Nat) (σ : JS)  (vo : Int32) (σo : JS) (hf : mH_ack σ  = some (0, vo, σo)) : Met l yH_ack wsH_ack rmnH_ack (jPre D (xT ca) (xC ca ad σ) (xN (va_A (xC ca ad σ) sz)) sz [.ref (ad 0)]) (jQi D (xT ca) (xC ca ad) (va_A (xC ca ad σ) sz) vo σo) 0 0 (va_A (xC ca ad σ) sz) := by
  refine Met.ofW (cc := cH_ack) (maxL := 1) (ret := some .int) (by decide) rfl ?_
  intro p e s m args below meth c s₁ B hml hv
  obtain ⟨rfl, hsz, hP, hK, hD0, hN⟩ := hv
  subst hsz
  have hl := lv_entry [.ref (ad 0)] (n := 1) (Nat.le_of_ble_eq_true rfl)
  rw [lg_entry_eq]
  generalize (lg_sl [.ref (ad 0)] ++ List.replicate (1 - (lg_sl [.ref (ad 0)]).length) Slot.unset).toArray = ls at hl ⊢
  exact bnH_ack (fun q h => Or.inr h) ⟨B.exec, B.bytes, hml, findClass_of_methodNamed B.named, fun w h => atoms_spec (ws := wsH_ack) B.pre w (List.mem_cons_of_mem _ h)⟩ hN B.returns B.notSynchronized vo σo σ  ls hl ⟨hP, hD0.self, va_S.rf, hK⟩ hf
set_option maxHeartbeats 4000000 in
set_option maxRecDepth 100000 in
theorem bxH_ack {p : Program} {l : Launch} {e : Env} {s : State} {m : MethodId} {args : Array Value} {below : List Frame} {meth : Method} {c : Code} {D : va_G} {ca : Nat → ClassId} {ad : Nat → Nat} {A : Nat → Prop} (hA : ∀ q, s.heap.size ≤ q → A q) (S : CallFix p m c cH_ack 1 s args jall RH) (hN : xN A s) (hr : meth.sig.returnType = some .int) (hlk : meth.locks = false) (hl9 : l.stackTraces = false) (ht9 : ∀ x ∈ c.exceptionTable.toList, False) (ko : Nat) (vo : Int32) (σo : JS) (hko : ¬ ko = 0) (σ : JS)  (ls : Array Slot) (hl : lv_has ls 1 [(0, .ref (ad 0))]) (hw : jH D (xT ca) (xC ca ad σ) A s.heap s.heap [] s) (hf : mH_ack σ  = some (ko, vo, σo)) : W p l e (headSpec wsH_ack rmxH_ack).room s m args below meth c s.heap [] 0 0 (jxQ below s (jE ko) (jB D (xT ca) (xC ca ad) A σo) A 1 6) (F0 m 0 ls []) := by
  have hx := S.1
  have hb := S.2.1
  unfold mH_ack at hf
  refine lv_aload_n (pc := 0) hx hb dH_ack_0 rfl (lv_at hl 0 rfl) ?_
  refine j_get (pc := 1) (v := .int (σ 100 8)) S hw inH 0 0 11 xg_0 rfl (by decide) k_173 rfl dH_ack_1 ?_
  refine lv_if_ne (pc := 4) (tgt := 15) hx hb dH_ack_4 (by decide) (fun hc => ?_) (fun hc => ?_)
  · replace hf := jif hf hc
    refine lv_aload_n (pc := 15) hx hb dH_ack_15 rfl (lv_at hl 0 rfl) ?_
    refine lv_aload_n (pc := 16) hx hb dH_ack_16 rfl (lv_at hl 0 rfl) ?_
    refine j_get (pc := 17) (v := .ref (ad 5)) S hw inH 0 0 4 xg_0 rfl (by decide) k_166 rfl dH_ack_17 ?_
    refine j_get (pc := 20) (v := .int (σ 100 4)) S hw inR 5 5 2 xg_5 rfl (by decide) k_151 rfl dH_ack_20 ?_
    have hg := jst_e hf; clear hf; obtain ⟨σ1, e2, hf⟩ := hg
    refine j_put (pc := 23) (v := .int (σ 100 4)) (ws' := xC ca ad σ1) S hw inH tyH tyH_ok nmH 0 0 10 xg_0 rfl (by decide) k_172 rfl rfl rfl (Nat.le_of_ble_eq_true rfl) (by rw [e2]; exact xp_7) dH_ack_23 (fun H locs hw => ?_)
    refine lv_aload_n (pc := 26) hx hb dH_ack_26 rfl (lv_at hl 0 rfl) ?_
    refine j_get (pc := 27) (v := .int (σ1 100 7)) S hw inH 0 0 10 xg_0 rfl (by decide) k_172 rfl dH_ack_27 ?_
    exact absurd (jo1 hf) hko
  · replace hf := jit hf hc
    obtain ⟨rfl, rfl, rfl⟩ := jo4 hf
    exact jx_throw (pc := 7) (own := RH) (cls := jE 2) (names := jnm) (ik := 68) (ic := 70) hx hb hl9 S.2.2.2.1 (by decide +kernel) (by decide +kernel) (S.2.2.2.2 _ k_340) (S.2.2.2.2 _ k_12) (jxw_of S hN jxw2) (hl.1.trans S.2.2.1.symm) dH_ack_7 dH_ack_10 dH_ack_11 dH_ack_14 ht9 (Nat.le_of_ble_eq_true rfl) (Nat.le_of_ble_eq_true rfl) (Nat.le_of_ble_eq_true rfl) (Nat.le_of_ble_eq_true rfl) hlk (Nat.le_refl _) (Nat.le_refl _) (jB_kept hw)
set_option maxHeartbeats 4000000 in
set_option maxRecDepth 100000 in
theorem kxH_ack (l : Launch) (hl9 : l.stackTraces = false) (D : va_G) (ca : Nat → ClassId) (ad : Nat → Nat) (sz : Nat) (σ : JS)  (ko : Nat) (vo : Int32) (σo : JS) (hko : ¬ ko = 0) (hf : mH_ack σ  = some (ko, vo, σo)) : jxM l yH_ack wsH_ack rmxH_ack (jPre D (xT ca) (xC ca ad σ) (xN (va_A (xC ca ad σ) sz)) sz [.ref (ad 0)]) (jE ko) (jB D (xT ca) (xC ca ad) (va_A (xC ca ad σ) sz) σo) (va_A (xC ca ad σ) sz) 1 6 := by
  refine jxM_of (cc := cH_ack) (maxL := 1) (ret := some .int) (by decide) rfl ?_
  intro p e s m args below meth c s₁ B hml hnil hv
  obtain ⟨rfl, hsz, hP, hK, hD0, hN⟩ := hv
  subst hsz
  have hl := lv_entry [.ref (ad 0)] (n := 1) (Nat.le_of_ble_eq_true rfl)
  rw [lg_entry_eq]
  generalize (lg_sl [.ref (ad 0)] ++ List.replicate (1 - (lg_sl [.ref (ad 0)]).length) Slot.unset).toArray = ls at hl ⊢
  exact bxH_ack (fun q h => Or.inr h) ⟨B.exec, B.bytes, hml, findClass_of_methodNamed B.named, fun w h => atoms_spec (ws := wsH_ack) B.pre w (List.mem_cons_of_mem _ h)⟩ hN B.returns B.notSynchronized hl9 hnil ko vo σo hko σ  ls hl ⟨hP, hD0.self, va_S.rf, hK⟩ hf

def rmH_remote : Room := { frames := 2, cells := 0, slots := 0, locals := 43 }
def mH_remote (σ : JS) (x1 : Int32) (x2 : Int32) : Option (Int64) :=
  jbn (mH_isRecord σ x1 x2) fun q1 =>
  if q1 = 0 then
  (some (1099511627776 : Int64))
  else
  (jbn (mH_cellOf σ x1 x2) fun q3 =>
  jrd σ 24 24 q3 fun v5 =>
  some v5.toInt64)
set_option maxHeartbeats 4000000 in
set_option maxRecDepth 100000 in
theorem bH_remote {p : Program} {l : Launch} {e : Env} {s : State} {m : MethodId} {args : Array Value} {below : List Frame} {meth : Method} {c : Code} {D : va_G} {ca : Nat → ClassId} {ad : Nat → Nat} {A : Nat → Prop} (hA : ∀ q, s.heap.size ≤ q → A q) (S : CallFix p m c cH_remote 3 s args jall RH) (hN : xN A s) (hr : meth.sig.returnType = some .long) (hlk : meth.locks = false) (out : Int64) (σ : JS) (x1 : Int32) (x2 : Int32) (ls : Array Slot) (hl : lv_has ls 3 [(0, .ref (ad 0)), (1, .int x1), (2, .int x2)]) (hw : jH D (xT ca) (xC ca ad σ) A s.heap s.heap [] s) (hf : mH_remote σ x1 x2 = some out) : W p l e (headSpec wsH_remote rmH_remote).room s m args below meth c s.heap [] 0 0 (MQ below (jSl out) args s 0 0 (fun _ => False)) (F0 m 0 ls []) := by
  have hx := S.1
  have hb := S.2.1
  unfold mH_remote at hf
  refine lv_aload_n (pc := 0) hx hb dH_remote_0 rfl (lv_at hl 0 rfl) ?_
  refine lv_iload_n (pc := 1) hx hb dH_remote_1 rfl (lv_at hl 1 rfl) ?_
  refine lv_iload_n (pc := 2) hx hb dH_remote_2 rfl (lv_at hl 2 rfl) ?_
  have hg := jbn_e hf; clear hf; obtain ⟨q1, h2, hf⟩ := hg
  refine j_cpi (pc := 3) (v := q1) (va_runV (As := [.int x1, .int x2]) (rest := []) S (kH_isRecord l D ca ad _ σ x1 x2 q1 h2) (cwV 2 S.2.2.2.2 (jgV k_203 k_205 ks_6 k_1 k_206) rfl rfl rfl (by decide +kernel) ⟨Nat.le_of_ble_eq_true rfl, Nat.le_of_ble_eq_true rfl⟩) (j_preV (As := [.int x1, .int x2]) hw xN_b (xN_to hN hw hA) rfl xg_0) rfl rfl hl.1 rfl (lv_room (Nat.le_of_ble_eq_true rfl)) dH_remote_3 ⟨Nat.le_of_ble_eq_true rfl, Nat.le_of_ble_eq_true rfl⟩) ?_
  refine lv_if_eq (pc := 6) (tgt := 26) hx hb dH_remote_6 (by decide) (fun hc => ?_) (fun hc => ?_)
  · replace hf := jit hf hc
    refine lv_ldc2 (pc := 26) (v := (1099511627776 : Int64)) hx hb S.2.2.2.1 (S.2.2.2.2 _ k_214) dH_remote_26 ?_
    obtain rfl := jsm hf
    exact j_lpr (pc := 29) S hr hlk dH_remote_29
  · replace hf := jif hf hc
    refine lv_aload_n (pc := 9) hx hb dH_remote_9 rfl (lv_at hl 0 rfl) ?_
    refine j_get (pc := 10) (v := .ref (ad 5)) S hw inH 0 0 4 xg_0 rfl (by decide) k_166 rfl dH_remote_10 ?_
    refine j_get (pc := 13) (v := .ref (ad 24)) S hw inR 5 5 0 xg_5 rfl (by decide) k_148 rfl dH_remote_13 ?_
    refine lv_iload_n (pc := 16) hx hb dH_remote_16 rfl (lv_at hl 1 rfl) ?_
    refine lv_iload_n (pc := 17) hx hb dH_remote_17 rfl (lv_at hl 2 rfl) ?_
    have hg := jbn_e hf; clear hf; obtain ⟨q3, h4, hf⟩ := hg
    refine j_cpi (pc := 18) (v := q3) (va_runS (As := [.int x1, .int x2]) (rest := [.ref (ad 24)]) S (kH_cellOf l D ca ad _ σ x1 x2 q3 h4) (cwS 2 S.2.2.2.2 (jgS k_211 k_212 k_1 k_213) rfl rfl rfl (by decide +kernel) ⟨Nat.le_of_ble_eq_true rfl, Nat.le_of_ble_eq_true rfl⟩) (j_preS hw xN_b (xN_to hN hw hA)) rfl rfl hl.1 rfl (lv_room (Nat.le_of_ble_eq_true rfl)) dH_remote_18 ⟨Nat.le_of_ble_eq_true rfl, Nat.le_of_ble_eq_true rfl⟩) ?_
    have hg := jrd_e hf; clear hf; obtain ⟨h6, v5, e7, hf⟩ := hg
    refine j_iald (pc := 21) S hw 24 18 xg_24 xt_24 h6 e7 dH_remote_21 ?_
    refine lv_i2l (pc := 22) (v := v5.toInt64) hx hb dH_remote_22 rfl ?_
    refine lv_goto (pc := 23) (tgt := 29) hx hb dH_remote_23 (by decide) ?_
    obtain rfl := jsm hf
    exact j_lpr (pc := 29) S hr hlk dH_remote_29
set_option maxHeartbeats 4000000 in
set_option maxRecDepth 100000 in
theorem kH_remote (l : Launch) (D : va_G) (ca : Nat → ClassId) (ad : Nat → Nat) (sz : Nat) (σ : JS) (x1 : Int32) (x2 : Int32) (out : Int64) (hf : mH_remote σ x1 x2 = some out) : Met l yH_remote wsH_remote rmH_remote (jPre D (xT ca) (xC ca ad σ) (xN (va_A (xC ca ad σ) sz)) sz [.ref (ad 0), .int x1, .int x2]) (jSl out) 0 0 (fun _ => False) := by
  refine Met.ofW (cc := cH_remote) (maxL := 3) (ret := some .long) (by decide) rfl ?_
  intro p e s m args below meth c s₁ B hml hv
  obtain ⟨rfl, hsz, hP, hK, hD0, hN⟩ := hv
  subst hsz
  have hl := lv_entry [.ref (ad 0), .int x1, .int x2] (n := 3) (Nat.le_of_ble_eq_true rfl)
  rw [lg_entry_eq]
  generalize (lg_sl [.ref (ad 0), .int x1, .int x2] ++ List.replicate (3 - (lg_sl [.ref (ad 0), .int x1, .int x2]).length) Slot.unset).toArray = ls at hl ⊢
  exact bH_remote (fun q h => Or.inr h) ⟨B.exec, B.bytes, hml, findClass_of_methodNamed B.named, fun w h => atoms_spec (ws := wsH_remote) B.pre w (List.mem_cons_of_mem _ h)⟩ hN B.returns B.notSynchronized out σ x1 x2 ls hl ⟨hP, hD0.self, va_S.rf, hK⟩ hf

