set_option maxHeartbeats 4000000 in
set_option maxRecDepth 100000 in
theorem cs_file {p : Program} {l : Launch} {e : Env} {s : State} {m : MethodId} {below : List Frame} {meth : Method} {c : Code} {b L : Nat} {xs : Nat → Int32} {D : va_G} {ca cb : Nat → ClassId} {ad bd : Nat → Nat} {o : Nat} {cJ : ClassId} {Q : State → Prop} (I : JS → JS → Prop) (hl9 : l.stackTraces = false) (S : CallFix p m c code 7 s #[Value.ref b] jall RZ) (hN : xN (gA s) s) (hNc : va_Nc (jE 2) (jE 1) s) (hX : va_X b L xs s s.heap) (hbl : b < s.heap.size) (hL : L ≤ 2560) (k : Nat) (hk : 5 * k + 5 ≤ L)  (ho : jo_file I) (cont : ∀ (σ τ : JS) (g : Nat → Int64) (ls : Array Slot) (H : Heap) (locs : List Loc) (cells slots : Nat), I σ τ → lv_has ls 7 [(0, .ref b), (1, .ref (ad 0)), (2, .ref (bd 0)), (3, .ref o), (4, .int (nI (5 * k)))] → jH D (gT ca cb cJ) (gC ca ad cb bd o cJ σ τ g) (gA s) s.heap H locs s → cells ≤ 101 + k → slots ≤ 3006 + 6 * k → W p l e room_1 s m #[Value.ref b] below meth c H locs cells slots Q (F0 m 1120 ls [])) (σ τ : JS) (g : Nat → Int64) (ls : Array Slot) (H : Heap) (locs : List Loc) (hI : I σ τ) (hl : lv_has ls 7 [(0, .ref b), (1, .ref (ad 0)), (2, .ref (bd 0)), (3, .ref o), (4, .int (nI (5 * k)))]) (hw : jH D (gT ca cb cJ) (gC ca ad cb bd o cJ σ τ g) (gA s) s.heap H locs s) : W p l e room_1 s m #[Value.ref b] below meth c H locs (100 + k) (3000 + 6 * k) Q (F0 m 132 ls []) := by
  have hx := S.1
  have hb := S.2.1
  obtain ⟨ko, vo, σo, w, τo, hfx, hfm, hth, hvw, hI2⟩ := ho σ τ (xs (nI (5 * k) + 1).toNatClampNeg) hI
  refine lv_aload_n (pc := 132) hx hb dZ_law_132 rfl (lv_at hl 1 rfl) ?_
  refine lv_aload_n (pc := 133) hx hb dZ_law_133 rfl (lv_at hl 0 rfl) ?_
  refine lv_iload (pc := 134) hx hb dZ_law_134 (lv_at hl 4 rfl) ?_
  refine lv_iconst (pc := 136) (v := (1 : Int32)) hx hb dZ_law_136 (by decide) ?_
  refine lv_iadd (pc := 137) hx hb dZ_law_137 ?_
  refine va_sld (pc := 138) hx hb hX hbl (Nat.not_le.mpr hbl) hw.2.2.1 (lw_in 1 (by decide) hk hL) dZ_law_138 ?_
  refine lv_aload_n (pc := 139) hx hb dZ_law_139 rfl (lv_at hl 3 rfl) ?_
  refine j_callZ (pc := 140) (v := zR ko) (σo := σo) (go := zG ko vo g) (gH_lf hw) (fun _ h => h) (j_runSW (n := 3) (As := [.ref (ad 0), .int (xs (nI (5 * k) + 1).toNatClampNeg), .ref o]) (rest := []) (bytes := cZ_file) (maxL := 4) (ret := some .int) (hh := [(0, 9, 12, 13), (0, 9, 15, 15)]) S (kZ_file l hl9 D ca ad o cJ _ σ g (xs (nI (5 * k) + 1).toNatClampNeg) ko vo σo hfx) rfl rfl (Nat.le_of_ble_eq_true rfl) (Nat.le_of_ble_eq_true rfl) (jgW k_271) List.mem_cons_self (S.2.2.2.2 _ k_0) (S.2.2.2.2 _ k_270) (S.2.2.2.2 _ k_269) (by decide +kernel) (j_preS (N := fun U => xN (va_A (lC ca ad o cJ σ g) H.size) U ∧ va_Nc (jE 2) (jE 1) U) (gH_l hw) (fun U g1 mk a1 h => ⟨xN_b U g1 mk a1 h.1, h.2.moved (Vm.Alike.refl U.vm)⟩) (fun U hU hW => ⟨xN_to hN (gH_l hw) (fun _ h => h) U hU hW, hNc.moved hW.alike⟩)) rfl hl.1 (Nat.le_of_ble_eq_true rfl) dZ_law_140 ⟨by show 100 + k + 1 ≤ 601024; omega, by show 3000 + 6 * k + 6 ≤ 7293034; omega⟩) (fun H locs hw => ?_)
  have hw := gH_lb hw
  refine lv_istore (pc := 143) (lv' := [(5, .int (zR ko)), (0, .ref b), (1, .ref (ad 0)), (2, .ref (bd 0)), (3, .ref o), (4, .int (nI (5 * k)))]) hx hb dZ_law_143 hl (by decide) rfl (fun ls hl => ?_)
  refine lv_aload_n (pc := 145) hx hb dZ_law_145 rfl (lv_at hl 3 rfl) ?_
  refine lv_aload_n (pc := 146) hx hb dZ_law_146 rfl (lv_at hl 1 rfl) ?_
  refine lv_iload (pc := 147) hx hb dZ_law_147 (lv_at hl 5 rfl) ?_
  refine lv_iconst (pc := 149) (v := (1 : Int32)) hx hb dZ_law_149 (by decide) ?_
  refine lv_iadd (pc := 150) hx hb dZ_law_150 ?_
  refine va_sld (pc := 151) hx hb hX hbl (Nat.not_le.mpr hbl) hw.2.2.1 (lw_in 1 (by decide) hk hL) dZ_law_151 ?_
  refine j_calliF (pc := 152) (C := mC cb bd) (σ' := τo) (v := w) (gH_mf hw) (fun _ h => h) (va_runV (As := [.int (xs (nI (5 * k) + 1).toNatClampNeg)]) (rest := []) S (kM_file l D cb bd _ τ (xs (nI (5 * k) + 1).toNatClampNeg) (w, τo) hfm) (cwV 1 S.2.2.2.2 (jgV k_676 k_677 k_678 k_7 k_679) rfl rfl rfl (by decide +kernel) ⟨Nat.le_of_ble_eq_true rfl, Nat.le_of_ble_eq_true rfl⟩) (j_preV (As := [.int (xs (nI (5 * k) + 1).toNatClampNeg)]) (gH_m hw) mN_b (mN_to trivial (gH_m hw) (fun _ h => h)) rfl mg_0) rfl rfl hl.1 rfl (lv_room (Nat.le_of_ble_eq_true rfl)) dZ_law_152 ⟨by show 100 + k + 1 + 0 ≤ 601024; omega, by show 3000 + 6 * k + 6 + 0 ≤ 7293034; omega⟩) (fun H locs hw => ?_)
  have hw := gH_mb hw
  refine lv_istore (pc := 155) (lv' := [(6, .int w), (5, .int (zR ko)), (0, .ref b), (1, .ref (ad 0)), (2, .ref (bd 0)), (3, .ref o), (4, .int (nI (5 * k)))]) hx hb dZ_law_155 hl (by decide) rfl (fun ls hl => ?_)
  refine lv_aload_n (pc := 157) hx hb dZ_law_157 rfl (lv_at hl 4 rfl) ?_
  refine j_cpi (pc := 158) (v := τo 100 0) (va_runV (As := []) (rest := []) S (kM_thrown l D cb bd _ τo (τo 100 0) rfl) (cwV 0 S.2.2.2.2 (jgV k_672 k_673 k_674 k_7 k_675) rfl rfl rfl (by decide +kernel) ⟨Nat.le_of_ble_eq_true rfl, Nat.le_of_ble_eq_true rfl⟩) (j_preV (As := []) (gH_m hw) mN_b (mN_to trivial (gH_m hw) (fun _ h => h)) rfl mg_0) rfl rfl hl.1 rfl (lv_room (Nat.le_of_ble_eq_true rfl)) dZ_law_158 ⟨by show 100 + k + 1 + 0 + 0 ≤ 601024; omega, by show 3000 + 6 * k + 6 + 0 + 0 ≤ 7293034; omega⟩) ?_
  refine lv_iload (pc := 161) hx hb dZ_law_161 (lv_at hl 1 rfl) ?_
  refine lv_icmp_eq (pc := 163) (tgt := 168) hx hb dZ_law_163 (by decide) (fun _ => ?_) (fun h => absurd hth h)
  refine lv_iload (pc := 168) hx hb dZ_law_168 (lv_at hl 1 rfl) ?_
  refine lv_if_ne (pc := 170) (tgt := 185) hx hb dZ_law_170 (by decide) (fun _ => ?_) (fun h0 => ?_)
  · refine lv_goto (pc := 185) (tgt := 1120) hx hb dZ_law_185 (by decide) ?_
    exact cont σo τo (zG ko vo g) _ _ _ _ _ hI2 (lv_sub hl [2, 3, 4, 5, 6] rfl) hw (by omega) (by omega)
  · have hko : ko = 0 := zR_0 h0
    subst hko
    have hv0 := hvw rfl
    subst hv0
    refine lv_aload_n (pc := 173) hx hb dZ_law_173 rfl (lv_at hl 5 rfl) ?_
    refine lv_iconst (pc := 174) (v := (0 : Int32)) hx hb dZ_law_174 (by decide) ?_
    refine va_lald (pc := 175) hx hb hw.2.2.2 hw.1 46 39 (cA := cJ) (n := 1) (f := zG 0 vo g) rfl rfl vp00 dZ_law_175 ?_
    refine lv_iload (pc := 176) hx hb dZ_law_176 (lv_at hl 0 rfl) ?_
    refine lv_i2l (pc := 178) (v := vo.toInt64) hx hb dZ_law_178 rfl ?_
    refine j_lcmp0 (pc := 179) (tgt := 185) hx hb dZ_law_179 dZ_law_180 (by decide) rfl ?_
    refine lv_goto (pc := 185) (tgt := 1120) hx hb dZ_law_185 (by decide) ?_
    exact cont σo τo (zG 0 vo g) _ _ _ _ _ hI2 (lv_sub hl [2, 3, 4, 5, 6] rfl) hw (by omega) (by omega)
set_option maxHeartbeats 4000000 in
set_option maxRecDepth 100000 in
theorem cs_change {p : Program} {l : Launch} {e : Env} {s : State} {m : MethodId} {below : List Frame} {meth : Method} {c : Code} {b L : Nat} {xs : Nat → Int32} {D : va_G} {ca cb : Nat → ClassId} {ad bd : Nat → Nat} {o : Nat} {cJ : ClassId} {Q : State → Prop} (I : JS → JS → Prop) (hl9 : l.stackTraces = false) (S : CallFix p m c code 7 s #[Value.ref b] jall RZ) (hN : xN (gA s) s) (hNc : va_Nc (jE 2) (jE 1) s) (hX : va_X b L xs s s.heap) (hbl : b < s.heap.size) (hL : L ≤ 2560) (k : Nat) (hk : 5 * k + 5 ≤ L)  (ho : jo_change I) (cont : ∀ (σ τ : JS) (g : Nat → Int64) (ls : Array Slot) (H : Heap) (locs : List Loc) (cells slots : Nat), I σ τ → lv_has ls 7 [(0, .ref b), (1, .ref (ad 0)), (2, .ref (bd 0)), (3, .ref o), (4, .int (nI (5 * k)))] → jH D (gT ca cb cJ) (gC ca ad cb bd o cJ σ τ g) (gA s) s.heap H locs s → cells ≤ 101 + k → slots ≤ 3006 + 6 * k → W p l e room_1 s m #[Value.ref b] below meth c H locs cells slots Q (F0 m 1120 ls [])) (σ τ : JS) (g : Nat → Int64) (ls : Array Slot) (H : Heap) (locs : List Loc) (hI : I σ τ) (hl : lv_has ls 7 [(0, .ref b), (1, .ref (ad 0)), (2, .ref (bd 0)), (3, .ref o), (4, .int (nI (5 * k)))]) (hw : jH D (gT ca cb cJ) (gC ca ad cb bd o cJ σ τ g) (gA s) s.heap H locs s) : W p l e room_1 s m #[Value.ref b] below meth c H locs (100 + k) (3000 + 6 * k) Q (F0 m 188 ls []) := by
  have hx := S.1
  have hb := S.2.1
  obtain ⟨ko, vo, σo, w, τo, hfx, hfm, hth, hvw, hI2⟩ := ho σ τ (xs (nI (5 * k) + 1).toNatClampNeg) (xs (nI (5 * k) + 2).toNatClampNeg) (xs (nI (5 * k) + 3).toNatClampNeg) (xs (nI (5 * k) + 4).toNatClampNeg) hI
  refine lv_aload_n (pc := 188) hx hb dZ_law_188 rfl (lv_at hl 1 rfl) ?_
  refine lv_aload_n (pc := 189) hx hb dZ_law_189 rfl (lv_at hl 0 rfl) ?_
  refine lv_iload (pc := 190) hx hb dZ_law_190 (lv_at hl 4 rfl) ?_
  refine lv_iconst (pc := 192) (v := (1 : Int32)) hx hb dZ_law_192 (by decide) ?_
  refine lv_iadd (pc := 193) hx hb dZ_law_193 ?_
  refine va_sld (pc := 194) hx hb hX hbl (Nat.not_le.mpr hbl) hw.2.2.1 (lw_in 1 (by decide) hk hL) dZ_law_194 ?_
  refine lv_aload_n (pc := 195) hx hb dZ_law_195 rfl (lv_at hl 0 rfl) ?_
  refine lv_iload (pc := 196) hx hb dZ_law_196 (lv_at hl 4 rfl) ?_
  refine lv_iconst (pc := 198) (v := (2 : Int32)) hx hb dZ_law_198 (by decide) ?_
  refine lv_iadd (pc := 199) hx hb dZ_law_199 ?_
  refine va_sld (pc := 200) hx hb hX hbl (Nat.not_le.mpr hbl) hw.2.2.1 (lw_in 2 (by decide) hk hL) dZ_law_200 ?_
  refine lv_aload_n (pc := 201) hx hb dZ_law_201 rfl (lv_at hl 0 rfl) ?_
  refine lv_iload (pc := 202) hx hb dZ_law_202 (lv_at hl 4 rfl) ?_
  refine lv_iconst (pc := 204) (v := (3 : Int32)) hx hb dZ_law_204 (by decide) ?_
  refine lv_iadd (pc := 205) hx hb dZ_law_205 ?_
  refine va_sld (pc := 206) hx hb hX hbl (Nat.not_le.mpr hbl) hw.2.2.1 (lw_in 3 (by decide) hk hL) dZ_law_206 ?_
  refine lv_aload_n (pc := 207) hx hb dZ_law_207 rfl (lv_at hl 0 rfl) ?_
  refine lv_iload (pc := 208) hx hb dZ_law_208 (lv_at hl 4 rfl) ?_
  refine lv_iconst (pc := 210) (v := (4 : Int32)) hx hb dZ_law_210 (by decide) ?_
  refine lv_iadd (pc := 211) hx hb dZ_law_211 ?_
  refine va_sld (pc := 212) hx hb hX hbl (Nat.not_le.mpr hbl) hw.2.2.1 (lw_in 4 (by decide) hk hL) dZ_law_212 ?_
  refine lv_aload_n (pc := 213) hx hb dZ_law_213 rfl (lv_at hl 3 rfl) ?_
  refine j_callZ (pc := 214) (v := zR ko) (σo := σo) (go := zG ko vo g) (gH_lf hw) (fun _ h => h) (j_runSW (n := 6) (As := [.ref (ad 0), .int (xs (nI (5 * k) + 1).toNatClampNeg), .int (xs (nI (5 * k) + 2).toNatClampNeg), .int (xs (nI (5 * k) + 3).toNatClampNeg), .int (xs (nI (5 * k) + 4).toNatClampNeg), .ref o]) (rest := []) (bytes := cZ_change) (maxL := 7) (ret := some .int) (hh := [(0, 14, 17, 13), (0, 14, 21, 15)]) S (kZ_change l hl9 D ca ad o cJ _ σ g (xs (nI (5 * k) + 1).toNatClampNeg) (xs (nI (5 * k) + 2).toNatClampNeg) (xs (nI (5 * k) + 3).toNatClampNeg) (xs (nI (5 * k) + 4).toNatClampNeg) ko vo σo hfx) rfl rfl (Nat.le_of_ble_eq_true rfl) (Nat.le_of_ble_eq_true rfl) (jgW k_357) List.mem_cons_self (S.2.2.2.2 _ k_0) (S.2.2.2.2 _ k_356) (S.2.2.2.2 _ k_355) (by decide +kernel) (j_preS (N := fun U => xN (va_A (lC ca ad o cJ σ g) H.size) U ∧ va_Nc (jE 2) (jE 1) U) (gH_l hw) (fun U g1 mk a1 h => ⟨xN_b U g1 mk a1 h.1, h.2.moved (Vm.Alike.refl U.vm)⟩) (fun U hU hW => ⟨xN_to hN (gH_l hw) (fun _ h => h) U hU hW, hNc.moved hW.alike⟩)) rfl hl.1 (Nat.le_of_ble_eq_true rfl) dZ_law_214 ⟨by show 100 + k + 1 ≤ 601024; omega, by show 3000 + 6 * k + 6 ≤ 7293034; omega⟩) (fun H locs hw => ?_)
  have hw := gH_lb hw
  refine lv_istore (pc := 217) (lv' := [(5, .int (zR ko)), (0, .ref b), (1, .ref (ad 0)), (2, .ref (bd 0)), (3, .ref o), (4, .int (nI (5 * k)))]) hx hb dZ_law_217 hl (by decide) rfl (fun ls hl => ?_)
  refine lv_aload_n (pc := 219) hx hb dZ_law_219 rfl (lv_at hl 3 rfl) ?_
  refine lv_aload_n (pc := 220) hx hb dZ_law_220 rfl (lv_at hl 1 rfl) ?_
  refine lv_iload (pc := 221) hx hb dZ_law_221 (lv_at hl 5 rfl) ?_
  refine lv_iconst (pc := 223) (v := (1 : Int32)) hx hb dZ_law_223 (by decide) ?_
  refine lv_iadd (pc := 224) hx hb dZ_law_224 ?_
  refine va_sld (pc := 225) hx hb hX hbl (Nat.not_le.mpr hbl) hw.2.2.1 (lw_in 1 (by decide) hk hL) dZ_law_225 ?_
  refine lv_aload_n (pc := 226) hx hb dZ_law_226 rfl (lv_at hl 1 rfl) ?_
  refine lv_iload (pc := 227) hx hb dZ_law_227 (lv_at hl 5 rfl) ?_
  refine lv_iconst (pc := 229) (v := (2 : Int32)) hx hb dZ_law_229 (by decide) ?_
  refine lv_iadd (pc := 230) hx hb dZ_law_230 ?_
  refine va_sld (pc := 231) hx hb hX hbl (Nat.not_le.mpr hbl) hw.2.2.1 (lw_in 2 (by decide) hk hL) dZ_law_231 ?_
  refine lv_aload_n (pc := 232) hx hb dZ_law_232 rfl (lv_at hl 1 rfl) ?_
  refine lv_iload (pc := 233) hx hb dZ_law_233 (lv_at hl 5 rfl) ?_
  refine lv_iconst (pc := 235) (v := (3 : Int32)) hx hb dZ_law_235 (by decide) ?_
  refine lv_iadd (pc := 236) hx hb dZ_law_236 ?_
  refine va_sld (pc := 237) hx hb hX hbl (Nat.not_le.mpr hbl) hw.2.2.1 (lw_in 3 (by decide) hk hL) dZ_law_237 ?_
  refine lv_aload_n (pc := 238) hx hb dZ_law_238 rfl (lv_at hl 1 rfl) ?_
  refine lv_iload (pc := 239) hx hb dZ_law_239 (lv_at hl 5 rfl) ?_
  refine lv_iconst (pc := 241) (v := (4 : Int32)) hx hb dZ_law_241 (by decide) ?_
  refine lv_iadd (pc := 242) hx hb dZ_law_242 ?_
  refine va_sld (pc := 243) hx hb hX hbl (Nat.not_le.mpr hbl) hw.2.2.1 (lw_in 4 (by decide) hk hL) dZ_law_243 ?_
  refine j_calliF (pc := 244) (C := mC cb bd) (σ' := τo) (v := w) (gH_mf hw) (fun _ h => h) (va_runV (As := [.int (xs (nI (5 * k) + 1).toNatClampNeg), .int (xs (nI (5 * k) + 2).toNatClampNeg), .int (xs (nI (5 * k) + 3).toNatClampNeg), .int (xs (nI (5 * k) + 4).toNatClampNeg)]) (rest := []) S (kM_change l D cb bd _ τ (xs (nI (5 * k) + 1).toNatClampNeg) (xs (nI (5 * k) + 2).toNatClampNeg) (xs (nI (5 * k) + 3).toNatClampNeg) (xs (nI (5 * k) + 4).toNatClampNeg) (w, τo) hfm) (cwV 4 S.2.2.2.2 (jgV k_683 k_684 k_685 k_7 k_686) rfl rfl rfl (by decide +kernel) ⟨Nat.le_of_ble_eq_true rfl, Nat.le_of_ble_eq_true rfl⟩) (j_preV (As := [.int (xs (nI (5 * k) + 1).toNatClampNeg), .int (xs (nI (5 * k) + 2).toNatClampNeg), .int (xs (nI (5 * k) + 3).toNatClampNeg), .int (xs (nI (5 * k) + 4).toNatClampNeg)]) (gH_m hw) mN_b (mN_to trivial (gH_m hw) (fun _ h => h)) rfl mg_0) rfl rfl hl.1 rfl (lv_room (Nat.le_of_ble_eq_true rfl)) dZ_law_244 ⟨by show 100 + k + 1 + 0 ≤ 601024; omega, by show 3000 + 6 * k + 6 + 0 ≤ 7293034; omega⟩) (fun H locs hw => ?_)
  have hw := gH_mb hw
  refine lv_istore (pc := 247) (lv' := [(6, .int w), (5, .int (zR ko)), (0, .ref b), (1, .ref (ad 0)), (2, .ref (bd 0)), (3, .ref o), (4, .int (nI (5 * k)))]) hx hb dZ_law_247 hl (by decide) rfl (fun ls hl => ?_)
  refine lv_aload_n (pc := 249) hx hb dZ_law_249 rfl (lv_at hl 4 rfl) ?_
  refine j_cpi (pc := 250) (v := τo 100 0) (va_runV (As := []) (rest := []) S (kM_thrown l D cb bd _ τo (τo 100 0) rfl) (cwV 0 S.2.2.2.2 (jgV k_672 k_673 k_674 k_7 k_675) rfl rfl rfl (by decide +kernel) ⟨Nat.le_of_ble_eq_true rfl, Nat.le_of_ble_eq_true rfl⟩) (j_preV (As := []) (gH_m hw) mN_b (mN_to trivial (gH_m hw) (fun _ h => h)) rfl mg_0) rfl rfl hl.1 rfl (lv_room (Nat.le_of_ble_eq_true rfl)) dZ_law_250 ⟨by show 100 + k + 1 + 0 + 0 ≤ 601024; omega, by show 3000 + 6 * k + 6 + 0 + 0 ≤ 7293034; omega⟩) ?_
  refine lv_iload (pc := 253) hx hb dZ_law_253 (lv_at hl 1 rfl) ?_
  refine lv_icmp_eq (pc := 255) (tgt := 260) hx hb dZ_law_255 (by decide) (fun _ => ?_) (fun h => absurd hth h)
  refine lv_iload (pc := 260) hx hb dZ_law_260 (lv_at hl 1 rfl) ?_
  refine lv_if_ne (pc := 262) (tgt := 277) hx hb dZ_law_262 (by decide) (fun _ => ?_) (fun h0 => ?_)
  · refine lv_goto (pc := 277) (tgt := 1120) hx hb dZ_law_277 (by decide) ?_
    exact cont σo τo (zG ko vo g) _ _ _ _ _ hI2 (lv_sub hl [2, 3, 4, 5, 6] rfl) hw (by omega) (by omega)
  · have hko : ko = 0 := zR_0 h0
    subst hko
    have hv0 := hvw rfl
    subst hv0
    refine lv_aload_n (pc := 265) hx hb dZ_law_265 rfl (lv_at hl 5 rfl) ?_
    refine lv_iconst (pc := 266) (v := (0 : Int32)) hx hb dZ_law_266 (by decide) ?_
    refine va_lald (pc := 267) hx hb hw.2.2.2 hw.1 46 39 (cA := cJ) (n := 1) (f := zG 0 vo g) rfl rfl vp00 dZ_law_267 ?_
    refine lv_iload (pc := 268) hx hb dZ_law_268 (lv_at hl 0 rfl) ?_
    refine lv_i2l (pc := 270) (v := vo.toInt64) hx hb dZ_law_270 rfl ?_
    refine j_lcmp0 (pc := 271) (tgt := 277) hx hb dZ_law_271 dZ_law_272 (by decide) rfl ?_
    refine lv_goto (pc := 277) (tgt := 1120) hx hb dZ_law_277 (by decide) ?_
    exact cont σo τo (zG 0 vo g) _ _ _ _ _ hI2 (lv_sub hl [2, 3, 4, 5, 6] rfl) hw (by omega) (by omega)
set_option maxHeartbeats 4000000 in
set_option maxRecDepth 100000 in
theorem cs_get {p : Program} {l : Launch} {e : Env} {s : State} {m : MethodId} {below : List Frame} {meth : Method} {c : Code} {b L : Nat} {xs : Nat → Int32} {D : va_G} {ca cb : Nat → ClassId} {ad bd : Nat → Nat} {o : Nat} {cJ : ClassId} {Q : State → Prop} (I : JS → JS → Prop) (hl9 : l.stackTraces = false) (S : CallFix p m c code 7 s #[Value.ref b] jall RZ) (hN : xN (gA s) s) (hNc : va_Nc (jE 2) (jE 1) s) (hX : va_X b L xs s s.heap) (hbl : b < s.heap.size) (hL : L ≤ 2560) (k : Nat) (hk : 5 * k + 5 ≤ L)  (ho : jo_get I) (cont : ∀ (σ τ : JS) (g : Nat → Int64) (ls : Array Slot) (H : Heap) (locs : List Loc) (cells slots : Nat), I σ τ → lv_has ls 7 [(0, .ref b), (1, .ref (ad 0)), (2, .ref (bd 0)), (3, .ref o), (4, .int (nI (5 * k)))] → jH D (gT ca cb cJ) (gC ca ad cb bd o cJ σ τ g) (gA s) s.heap H locs s → cells ≤ 101 + k → slots ≤ 3006 + 6 * k → W p l e room_1 s m #[Value.ref b] below meth c H locs cells slots Q (F0 m 1120 ls [])) (σ τ : JS) (g : Nat → Int64) (ls : Array Slot) (H : Heap) (locs : List Loc) (hI : I σ τ) (hl : lv_has ls 7 [(0, .ref b), (1, .ref (ad 0)), (2, .ref (bd 0)), (3, .ref o), (4, .int (nI (5 * k)))]) (hw : jH D (gT ca cb cJ) (gC ca ad cb bd o cJ σ τ g) (gA s) s.heap H locs s) : W p l e room_1 s m #[Value.ref b] below meth c H locs (100 + k) (3000 + 6 * k) Q (F0 m 280 ls []) := by
  have hx := S.1
  have hb := S.2.1
  obtain ⟨v, τo, hfx, hfm, hI2⟩ := ho σ τ (xs (nI (5 * k) + 1).toNatClampNeg) (xs (nI (5 * k) + 2).toNatClampNeg) hI
  refine lv_aload_n (pc := 280) hx hb dZ_law_280 rfl (lv_at hl 1 rfl) ?_
  refine lv_aload_n (pc := 281) hx hb dZ_law_281 rfl (lv_at hl 0 rfl) ?_
  refine lv_iload (pc := 282) hx hb dZ_law_282 (lv_at hl 4 rfl) ?_
  refine lv_iconst (pc := 284) (v := (1 : Int32)) hx hb dZ_law_284 (by decide) ?_
  refine lv_iadd (pc := 285) hx hb dZ_law_285 ?_
  refine va_sld (pc := 286) hx hb hX hbl (Nat.not_le.mpr hbl) hw.2.2.1 (lw_in 1 (by decide) hk hL) dZ_law_286 ?_
  refine lv_aload_n (pc := 287) hx hb dZ_law_287 rfl (lv_at hl 0 rfl) ?_
  refine lv_iload (pc := 288) hx hb dZ_law_288 (lv_at hl 4 rfl) ?_
  refine lv_iconst (pc := 290) (v := (2 : Int32)) hx hb dZ_law_290 (by decide) ?_
  refine lv_iadd (pc := 291) hx hb dZ_law_291 ?_
  refine va_sld (pc := 292) hx hb hX hbl (Nat.not_le.mpr hbl) hw.2.2.1 (lw_in 2 (by decide) hk hL) dZ_law_292 ?_
  refine j_cpl (pc := 293) (v := v) (va_runV (As := [.int (xs (nI (5 * k) + 1).toNatClampNeg), .int (xs (nI (5 * k) + 2).toNatClampNeg)]) (rest := []) S (kH_get l D ca ad _ σ (xs (nI (5 * k) + 1).toNatClampNeg) (xs (nI (5 * k) + 2).toNatClampNeg) v hfx) (cwV 2 S.2.2.2.2 (jgV k_199 k_200 k_201 k_1 k_202) rfl rfl rfl (by decide +kernel) ⟨Nat.le_of_ble_eq_true rfl, Nat.le_of_ble_eq_true rfl⟩) (j_preV (As := [.int (xs (nI (5 * k) + 1).toNatClampNeg), .int (xs (nI (5 * k) + 2).toNatClampNeg)]) (gH_x hw) xN_b (xN_to hN (gH_x hw) (fun _ h => h)) rfl xg_0) rfl rfl hl.1 rfl (lv_room (Nat.le_of_ble_eq_true rfl)) dZ_law_293 ⟨by show 100 + k + 0 ≤ 601024; omega, by show 3000 + 6 * k + 0 ≤ 7293034; omega⟩) ?_
  refine lv_aload_n (pc := 296) hx hb dZ_law_296 rfl (lv_at hl 2 rfl) ?_
  refine lv_aload_n (pc := 297) hx hb dZ_law_297 rfl (lv_at hl 0 rfl) ?_
  refine lv_iload (pc := 298) hx hb dZ_law_298 (lv_at hl 4 rfl) ?_
  refine lv_iconst (pc := 300) (v := (1 : Int32)) hx hb dZ_law_300 (by decide) ?_
  refine lv_iadd (pc := 301) hx hb dZ_law_301 ?_
  refine va_sld (pc := 302) hx hb hX hbl (Nat.not_le.mpr hbl) hw.2.2.1 (lw_in 1 (by decide) hk hL) dZ_law_302 ?_
  refine lv_aload_n (pc := 303) hx hb dZ_law_303 rfl (lv_at hl 0 rfl) ?_
  refine lv_iload (pc := 304) hx hb dZ_law_304 (lv_at hl 4 rfl) ?_
  refine lv_iconst (pc := 306) (v := (2 : Int32)) hx hb dZ_law_306 (by decide) ?_
  refine lv_iadd (pc := 307) hx hb dZ_law_307 ?_
  refine va_sld (pc := 308) hx hb hX hbl (Nat.not_le.mpr hbl) hw.2.2.1 (lw_in 2 (by decide) hk hL) dZ_law_308 ?_
  refine j_calllF (pc := 309) (C := mC cb bd) (σ' := τo) (v := v) (gH_mf hw) (fun _ h => h) (va_runV (As := [.int (xs (nI (5 * k) + 1).toNatClampNeg), .int (xs (nI (5 * k) + 2).toNatClampNeg)]) (rest := [.long v]) S (kM_get l D cb bd _ τ (xs (nI (5 * k) + 1).toNatClampNeg) (xs (nI (5 * k) + 2).toNatClampNeg) (v, τo) hfm) (cwV 2 S.2.2.2.2 (jgV k_735 k_736 k_737 k_7 k_738) rfl rfl rfl (by decide +kernel) ⟨Nat.le_of_ble_eq_true rfl, Nat.le_of_ble_eq_true rfl⟩) (j_preV (As := [.int (xs (nI (5 * k) + 1).toNatClampNeg), .int (xs (nI (5 * k) + 2).toNatClampNeg)]) (gH_m hw) mN_b (mN_to trivial (gH_m hw) (fun _ h => h)) rfl mg_0) rfl rfl hl.1 rfl (lv_room (Nat.le_of_ble_eq_true rfl)) dZ_law_309 ⟨by show 100 + k + 0 ≤ 601024; omega, by show 3000 + 6 * k + 0 ≤ 7293034; omega⟩) (fun H locs hw => ?_)
  have hw := gH_mb hw
  refine j_lcmp0 (pc := 312) (tgt := 1120) hx hb dZ_law_312 dZ_law_313 (by decide) rfl ?_
  exact cont σ τo g _ _ _ _ _ hI2 hl hw (by omega) (by omega)
set_option maxHeartbeats 4000000 in
set_option maxRecDepth 100000 in
theorem cs_disk {p : Program} {l : Launch} {e : Env} {s : State} {m : MethodId} {below : List Frame} {meth : Method} {c : Code} {b L : Nat} {xs : Nat → Int32} {D : va_G} {ca cb : Nat → ClassId} {ad bd : Nat → Nat} {o : Nat} {cJ : ClassId} {Q : State → Prop} (I : JS → JS → Prop) (hl9 : l.stackTraces = false) (S : CallFix p m c code 7 s #[Value.ref b] jall RZ) (hN : xN (gA s) s) (hNc : va_Nc (jE 2) (jE 1) s) (hX : va_X b L xs s s.heap) (hbl : b < s.heap.size) (hL : L ≤ 2560) (k : Nat) (hk : 5 * k + 5 ≤ L)  (ho : jo_disk I) (cont : ∀ (σ τ : JS) (g : Nat → Int64) (ls : Array Slot) (H : Heap) (locs : List Loc) (cells slots : Nat), I σ τ → lv_has ls 7 [(0, .ref b), (1, .ref (ad 0)), (2, .ref (bd 0)), (3, .ref o), (4, .int (nI (5 * k)))] → jH D (gT ca cb cJ) (gC ca ad cb bd o cJ σ τ g) (gA s) s.heap H locs s → cells ≤ 101 + k → slots ≤ 3006 + 6 * k → W p l e room_1 s m #[Value.ref b] below meth c H locs cells slots Q (F0 m 1120 ls [])) (σ τ : JS) (g : Nat → Int64) (ls : Array Slot) (H : Heap) (locs : List Loc) (hI : I σ τ) (hl : lv_has ls 7 [(0, .ref b), (1, .ref (ad 0)), (2, .ref (bd 0)), (3, .ref o), (4, .int (nI (5 * k)))]) (hw : jH D (gT ca cb cJ) (gC ca ad cb bd o cJ σ τ g) (gA s) s.heap H locs s) : W p l e room_1 s m #[Value.ref b] below meth c H locs (100 + k) (3000 + 6 * k) Q (F0 m 318 ls []) := by
  have hx := S.1
  have hb := S.2.1
  obtain ⟨v, τo, hfx, hfm, hI2⟩ := ho σ τ (xs (nI (5 * k) + 1).toNatClampNeg) (xs (nI (5 * k) + 2).toNatClampNeg) hI
  refine lv_aload_n (pc := 318) hx hb dZ_law_318 rfl (lv_at hl 1 rfl) ?_
  refine lv_aload_n (pc := 319) hx hb dZ_law_319 rfl (lv_at hl 0 rfl) ?_
  refine lv_iload (pc := 320) hx hb dZ_law_320 (lv_at hl 4 rfl) ?_
  refine lv_iconst (pc := 322) (v := (1 : Int32)) hx hb dZ_law_322 (by decide) ?_
  refine lv_iadd (pc := 323) hx hb dZ_law_323 ?_
  refine va_sld (pc := 324) hx hb hX hbl (Nat.not_le.mpr hbl) hw.2.2.1 (lw_in 1 (by decide) hk hL) dZ_law_324 ?_
  refine lv_aload_n (pc := 325) hx hb dZ_law_325 rfl (lv_at hl 0 rfl) ?_
  refine lv_iload (pc := 326) hx hb dZ_law_326 (lv_at hl 4 rfl) ?_
  refine lv_iconst (pc := 328) (v := (2 : Int32)) hx hb dZ_law_328 (by decide) ?_
  refine lv_iadd (pc := 329) hx hb dZ_law_329 ?_
  refine va_sld (pc := 330) hx hb hX hbl (Nat.not_le.mpr hbl) hw.2.2.1 (lw_in 2 (by decide) hk hL) dZ_law_330 ?_
  refine j_cpl (pc := 331) (v := v) (va_runV (As := [.int (xs (nI (5 * k) + 1).toNatClampNeg), .int (xs (nI (5 * k) + 2).toNatClampNeg)]) (rest := []) S (kH_disk l D ca ad _ σ (xs (nI (5 * k) + 1).toNatClampNeg) (xs (nI (5 * k) + 2).toNatClampNeg) v hfx) (cwV 2 S.2.2.2.2 (jgV k_215 k_216 k_217 k_1 k_218) rfl rfl rfl (by decide +kernel) ⟨Nat.le_of_ble_eq_true rfl, Nat.le_of_ble_eq_true rfl⟩) (j_preV (As := [.int (xs (nI (5 * k) + 1).toNatClampNeg), .int (xs (nI (5 * k) + 2).toNatClampNeg)]) (gH_x hw) xN_b (xN_to hN (gH_x hw) (fun _ h => h)) rfl xg_0) rfl rfl hl.1 rfl (lv_room (Nat.le_of_ble_eq_true rfl)) dZ_law_331 ⟨by show 100 + k + 0 ≤ 601024; omega, by show 3000 + 6 * k + 0 ≤ 7293034; omega⟩) ?_
  refine lv_aload_n (pc := 334) hx hb dZ_law_334 rfl (lv_at hl 2 rfl) ?_
  refine lv_aload_n (pc := 335) hx hb dZ_law_335 rfl (lv_at hl 0 rfl) ?_
  refine lv_iload (pc := 336) hx hb dZ_law_336 (lv_at hl 4 rfl) ?_
  refine lv_iconst (pc := 338) (v := (1 : Int32)) hx hb dZ_law_338 (by decide) ?_
  refine lv_iadd (pc := 339) hx hb dZ_law_339 ?_
  refine va_sld (pc := 340) hx hb hX hbl (Nat.not_le.mpr hbl) hw.2.2.1 (lw_in 1 (by decide) hk hL) dZ_law_340 ?_
  refine lv_aload_n (pc := 341) hx hb dZ_law_341 rfl (lv_at hl 0 rfl) ?_
  refine lv_iload (pc := 342) hx hb dZ_law_342 (lv_at hl 4 rfl) ?_
  refine lv_iconst (pc := 344) (v := (2 : Int32)) hx hb dZ_law_344 (by decide) ?_
  refine lv_iadd (pc := 345) hx hb dZ_law_345 ?_
  refine va_sld (pc := 346) hx hb hX hbl (Nat.not_le.mpr hbl) hw.2.2.1 (lw_in 2 (by decide) hk hL) dZ_law_346 ?_
  refine j_calllF (pc := 347) (C := mC cb bd) (σ' := τo) (v := v) (gH_mf hw) (fun _ h => h) (va_runV (As := [.int (xs (nI (5 * k) + 1).toNatClampNeg), .int (xs (nI (5 * k) + 2).toNatClampNeg)]) (rest := [.long v]) S (kM_disk l D cb bd _ τ (xs (nI (5 * k) + 1).toNatClampNeg) (xs (nI (5 * k) + 2).toNatClampNeg) (v, τo) hfm) (cwV 2 S.2.2.2.2 (jgV k_740 k_741 k_742 k_7 k_743) rfl rfl rfl (by decide +kernel) ⟨Nat.le_of_ble_eq_true rfl, Nat.le_of_ble_eq_true rfl⟩) (j_preV (As := [.int (xs (nI (5 * k) + 1).toNatClampNeg), .int (xs (nI (5 * k) + 2).toNatClampNeg)]) (gH_m hw) mN_b (mN_to trivial (gH_m hw) (fun _ h => h)) rfl mg_0) rfl rfl hl.1 rfl (lv_room (Nat.le_of_ble_eq_true rfl)) dZ_law_347 ⟨by show 100 + k + 0 ≤ 601024; omega, by show 3000 + 6 * k + 0 ≤ 7293034; omega⟩) (fun H locs hw => ?_)
  have hw := gH_mb hw
  refine j_lcmp0 (pc := 350) (tgt := 1120) hx hb dZ_law_350 dZ_law_351 (by decide) rfl ?_
  exact cont σ τo g _ _ _ _ _ hI2 hl hw (by omega) (by omega)
set_option maxHeartbeats 4000000 in
set_option maxRecDepth 100000 in
theorem cs_end {p : Program} {l : Launch} {e : Env} {s : State} {m : MethodId} {below : List Frame} {meth : Method} {c : Code} {b L : Nat} {xs : Nat → Int32} {D : va_G} {ca cb : Nat → ClassId} {ad bd : Nat → Nat} {o : Nat} {cJ : ClassId} {Q : State → Prop} (I : JS → JS → Prop) (hl9 : l.stackTraces = false) (S : CallFix p m c code 7 s #[Value.ref b] jall RZ) (hN : xN (gA s) s) (hNc : va_Nc (jE 2) (jE 1) s) (hX : va_X b L xs s s.heap) (hbl : b < s.heap.size) (hL : L ≤ 2560) (k : Nat) (hk : 5 * k + 5 ≤ L)  (ho : jo_end I) (cont : ∀ (σ τ : JS) (g : Nat → Int64) (ls : Array Slot) (H : Heap) (locs : List Loc) (cells slots : Nat), I σ τ → lv_has ls 7 [(0, .ref b), (1, .ref (ad 0)), (2, .ref (bd 0)), (3, .ref o), (4, .int (nI (5 * k)))] → jH D (gT ca cb cJ) (gC ca ad cb bd o cJ σ τ g) (gA s) s.heap H locs s → cells ≤ 101 + k → slots ≤ 3006 + 6 * k → W p l e room_1 s m #[Value.ref b] below meth c H locs cells slots Q (F0 m 1120 ls [])) (σ τ : JS) (g : Nat → Int64) (ls : Array Slot) (H : Heap) (locs : List Loc) (hI : I σ τ) (hl : lv_has ls 7 [(0, .ref b), (1, .ref (ad 0)), (2, .ref (bd 0)), (3, .ref o), (4, .int (nI (5 * k)))]) (hw : jH D (gT ca cb cJ) (gC ca ad cb bd o cJ σ τ g) (gA s) s.heap H locs s) : W p l e room_1 s m #[Value.ref b] below meth c H locs (100 + k) (3000 + 6 * k) Q (F0 m 356 ls []) := by
  have hx := S.1
  have hb := S.2.1
  by_cases hb0 : (xs (nI (5 * k) + 2).toNatClampNeg) = 0
  · obtain ⟨ko, vo, σo, w, τo, hfx, hfm, hth, hvw, hI2⟩ := ho σ τ (xs (nI (5 * k) + 1).toNatClampNeg) (0 : Int32) (by decide) hI
    refine lv_aload_n (pc := 356) hx hb dZ_law_356 rfl (lv_at hl 1 rfl) ?_
    refine lv_aload_n (pc := 357) hx hb dZ_law_357 rfl (lv_at hl 0 rfl) ?_
    refine lv_iload (pc := 358) hx hb dZ_law_358 (lv_at hl 4 rfl) ?_
    refine lv_iconst (pc := 360) (v := (1 : Int32)) hx hb dZ_law_360 (by decide) ?_
    refine lv_iadd (pc := 361) hx hb dZ_law_361 ?_
    refine va_sld (pc := 362) hx hb hX hbl (Nat.not_le.mpr hbl) hw.2.2.1 (lw_in 1 (by decide) hk hL) dZ_law_362 ?_
    refine lv_aload_n (pc := 363) hx hb dZ_law_363 rfl (lv_at hl 0 rfl) ?_
    refine lv_iload (pc := 364) hx hb dZ_law_364 (lv_at hl 4 rfl) ?_
    refine lv_iconst (pc := 366) (v := (2 : Int32)) hx hb dZ_law_366 (by decide) ?_
    refine lv_iadd (pc := 367) hx hb dZ_law_367 ?_
    refine va_sld (pc := 368) hx hb hX hbl (Nat.not_le.mpr hbl) hw.2.2.1 (lw_in 2 (by decide) hk hL) dZ_law_368 ?_
    refine lv_if_eq (pc := 369) (tgt := 376) hx hb dZ_law_369 (by decide) (fun _ => ?_) (fun h => absurd hb0 h)
    refine lv_iconst (pc := 376) (v := (0 : Int32)) hx hb dZ_law_376 (by decide) ?_
    refine lv_aload_n (pc := 377) hx hb dZ_law_377 rfl (lv_at hl 3 rfl) ?_
    refine j_callZ (pc := 378) (v := zR ko) (σo := σo) (go := zG ko vo g) (gH_lf hw) (fun _ h => h) (j_runSW (n := 4) (As := [.ref (ad 0), .int (xs (nI (5 * k) + 1).toNatClampNeg), .int (0 : Int32), .ref o]) (rest := []) (bytes := cZ_end) (maxL := 5) (ret := some .int) (hh := [(0, 10, 13, 13), (0, 10, 17, 15)]) S (kZ_end l hl9 D ca ad o cJ _ σ g (xs (nI (5 * k) + 1).toNatClampNeg) (0 : Int32) ko vo σo hfx) rfl rfl (Nat.le_of_ble_eq_true rfl) (Nat.le_of_ble_eq_true rfl) (jgW k_419) List.mem_cons_self (S.2.2.2.2 _ k_0) (S.2.2.2.2 _ k_418) (S.2.2.2.2 _ k_417) (by decide +kernel) (j_preS (N := fun U => xN (va_A (lC ca ad o cJ σ g) H.size) U ∧ va_Nc (jE 2) (jE 1) U) (gH_l hw) (fun U g1 mk a1 h => ⟨xN_b U g1 mk a1 h.1, h.2.moved (Vm.Alike.refl U.vm)⟩) (fun U hU hW => ⟨xN_to hN (gH_l hw) (fun _ h => h) U hU hW, hNc.moved hW.alike⟩)) rfl hl.1 (Nat.le_of_ble_eq_true rfl) dZ_law_378 ⟨by show 100 + k + 1 ≤ 601024; omega, by show 3000 + 6 * k + 6 ≤ 7293034; omega⟩) (fun H locs hw => ?_)
    have hw := gH_lb hw
    refine lv_istore (pc := 381) (lv' := [(5, .int (zR ko)), (0, .ref b), (1, .ref (ad 0)), (2, .ref (bd 0)), (3, .ref o), (4, .int (nI (5 * k)))]) hx hb dZ_law_381 hl (by decide) rfl (fun ls hl => ?_)
    refine lv_aload_n (pc := 383) hx hb dZ_law_383 rfl (lv_at hl 3 rfl) ?_
    refine lv_aload_n (pc := 384) hx hb dZ_law_384 rfl (lv_at hl 1 rfl) ?_
    refine lv_iload (pc := 385) hx hb dZ_law_385 (lv_at hl 5 rfl) ?_
    refine lv_iconst (pc := 387) (v := (1 : Int32)) hx hb dZ_law_387 (by decide) ?_
    refine lv_iadd (pc := 388) hx hb dZ_law_388 ?_
    refine va_sld (pc := 389) hx hb hX hbl (Nat.not_le.mpr hbl) hw.2.2.1 (lw_in 1 (by decide) hk hL) dZ_law_389 ?_
    refine lv_aload_n (pc := 390) hx hb dZ_law_390 rfl (lv_at hl 1 rfl) ?_
    refine lv_iload (pc := 391) hx hb dZ_law_391 (lv_at hl 5 rfl) ?_
    refine lv_iconst (pc := 393) (v := (2 : Int32)) hx hb dZ_law_393 (by decide) ?_
    refine lv_iadd (pc := 394) hx hb dZ_law_394 ?_
    refine va_sld (pc := 395) hx hb hX hbl (Nat.not_le.mpr hbl) hw.2.2.1 (lw_in 2 (by decide) hk hL) dZ_law_395 ?_
    refine lv_if_eq (pc := 396) (tgt := 403) hx hb dZ_law_396 (by decide) (fun _ => ?_) (fun h => absurd hb0 h)
    refine lv_iconst (pc := 403) (v := (0 : Int32)) hx hb dZ_law_403 (by decide) ?_
    refine j_calliF (pc := 404) (C := mC cb bd) (σ' := τo) (v := w) (gH_mf hw) (fun _ h => h) (va_runV (As := [.int (xs (nI (5 * k) + 1).toNatClampNeg), .int (0 : Int32)]) (rest := []) S (kM_end l D cb bd _ τ (xs (nI (5 * k) + 1).toNatClampNeg) (0 : Int32) (w, τo) hfm) (cwV 2 S.2.2.2.2 (jgV k_744 k_745 k_746 k_7 k_747) rfl rfl rfl (by decide +kernel) ⟨Nat.le_of_ble_eq_true rfl, Nat.le_of_ble_eq_true rfl⟩) (j_preV (As := [.int (xs (nI (5 * k) + 1).toNatClampNeg), .int (0 : Int32)]) (gH_m hw) mN_b (mN_to trivial (gH_m hw) (fun _ h => h)) rfl mg_0) rfl rfl hl.1 rfl (lv_room (Nat.le_of_ble_eq_true rfl)) dZ_law_404 ⟨by show 100 + k + 1 + 0 ≤ 601024; omega, by show 3000 + 6 * k + 6 + 0 ≤ 7293034; omega⟩) (fun H locs hw => ?_)
    have hw := gH_mb hw
    refine lv_istore (pc := 407) (lv' := [(6, .int w), (5, .int (zR ko)), (0, .ref b), (1, .ref (ad 0)), (2, .ref (bd 0)), (3, .ref o), (4, .int (nI (5 * k)))]) hx hb dZ_law_407 hl (by decide) rfl (fun ls hl => ?_)
    refine lv_aload_n (pc := 409) hx hb dZ_law_409 rfl (lv_at hl 4 rfl) ?_
    refine j_cpi (pc := 410) (v := τo 100 0) (va_runV (As := []) (rest := []) S (kM_thrown l D cb bd _ τo (τo 100 0) rfl) (cwV 0 S.2.2.2.2 (jgV k_672 k_673 k_674 k_7 k_675) rfl rfl rfl (by decide +kernel) ⟨Nat.le_of_ble_eq_true rfl, Nat.le_of_ble_eq_true rfl⟩) (j_preV (As := []) (gH_m hw) mN_b (mN_to trivial (gH_m hw) (fun _ h => h)) rfl mg_0) rfl rfl hl.1 rfl (lv_room (Nat.le_of_ble_eq_true rfl)) dZ_law_410 ⟨by show 100 + k + 1 + 0 + 0 ≤ 601024; omega, by show 3000 + 6 * k + 6 + 0 + 0 ≤ 7293034; omega⟩) ?_
    refine lv_iload (pc := 413) hx hb dZ_law_413 (lv_at hl 1 rfl) ?_
    refine lv_icmp_eq (pc := 415) (tgt := 420) hx hb dZ_law_415 (by decide) (fun _ => ?_) (fun h => absurd hth h)
    refine lv_iload (pc := 420) hx hb dZ_law_420 (lv_at hl 1 rfl) ?_
    refine lv_if_ne (pc := 422) (tgt := 437) hx hb dZ_law_422 (by decide) (fun _ => ?_) (fun h0 => ?_)
    · refine lv_goto (pc := 437) (tgt := 1120) hx hb dZ_law_437 (by decide) ?_
      exact cont σo τo (zG ko vo g) _ _ _ _ _ hI2 (lv_sub hl [2, 3, 4, 5, 6] rfl) hw (by omega) (by omega)
    · have hko : ko = 0 := zR_0 h0
      subst hko
      have hv0 := hvw rfl
      subst hv0
      refine lv_aload_n (pc := 425) hx hb dZ_law_425 rfl (lv_at hl 5 rfl) ?_
      refine lv_iconst (pc := 426) (v := (0 : Int32)) hx hb dZ_law_426 (by decide) ?_
      refine va_lald (pc := 427) hx hb hw.2.2.2 hw.1 46 39 (cA := cJ) (n := 1) (f := zG 0 vo g) rfl rfl vp00 dZ_law_427 ?_
      refine lv_iload (pc := 428) hx hb dZ_law_428 (lv_at hl 0 rfl) ?_
      refine lv_i2l (pc := 430) (v := vo.toInt64) hx hb dZ_law_430 rfl ?_
      refine j_lcmp0 (pc := 431) (tgt := 437) hx hb dZ_law_431 dZ_law_432 (by decide) rfl ?_
      refine lv_goto (pc := 437) (tgt := 1120) hx hb dZ_law_437 (by decide) ?_
      exact cont σo τo (zG 0 vo g) _ _ _ _ _ hI2 (lv_sub hl [2, 3, 4, 5, 6] rfl) hw (by omega) (by omega)
  · obtain ⟨ko, vo, σo, w, τo, hfx, hfm, hth, hvw, hI2⟩ := ho σ τ (xs (nI (5 * k) + 1).toNatClampNeg) (1 : Int32) (by decide) hI
    refine lv_aload_n (pc := 356) hx hb dZ_law_356 rfl (lv_at hl 1 rfl) ?_
    refine lv_aload_n (pc := 357) hx hb dZ_law_357 rfl (lv_at hl 0 rfl) ?_
    refine lv_iload (pc := 358) hx hb dZ_law_358 (lv_at hl 4 rfl) ?_
    refine lv_iconst (pc := 360) (v := (1 : Int32)) hx hb dZ_law_360 (by decide) ?_
    refine lv_iadd (pc := 361) hx hb dZ_law_361 ?_
    refine va_sld (pc := 362) hx hb hX hbl (Nat.not_le.mpr hbl) hw.2.2.1 (lw_in 1 (by decide) hk hL) dZ_law_362 ?_
    refine lv_aload_n (pc := 363) hx hb dZ_law_363 rfl (lv_at hl 0 rfl) ?_
    refine lv_iload (pc := 364) hx hb dZ_law_364 (lv_at hl 4 rfl) ?_
    refine lv_iconst (pc := 366) (v := (2 : Int32)) hx hb dZ_law_366 (by decide) ?_
    refine lv_iadd (pc := 367) hx hb dZ_law_367 ?_
    refine va_sld (pc := 368) hx hb hX hbl (Nat.not_le.mpr hbl) hw.2.2.1 (lw_in 2 (by decide) hk hL) dZ_law_368 ?_
    refine lv_if_eq (pc := 369) (tgt := 376) hx hb dZ_law_369 (by decide) (fun h => absurd h hb0) (fun _ => ?_)
    refine lv_iconst (pc := 372) (v := (1 : Int32)) hx hb dZ_law_372 (by decide) ?_
    refine lv_goto (pc := 373) (tgt := 377) hx hb dZ_law_373 (by decide) ?_
    refine lv_aload_n (pc := 377) hx hb dZ_law_377 rfl (lv_at hl 3 rfl) ?_
    refine j_callZ (pc := 378) (v := zR ko) (σo := σo) (go := zG ko vo g) (gH_lf hw) (fun _ h => h) (j_runSW (n := 4) (As := [.ref (ad 0), .int (xs (nI (5 * k) + 1).toNatClampNeg), .int (1 : Int32), .ref o]) (rest := []) (bytes := cZ_end) (maxL := 5) (ret := some .int) (hh := [(0, 10, 13, 13), (0, 10, 17, 15)]) S (kZ_end l hl9 D ca ad o cJ _ σ g (xs (nI (5 * k) + 1).toNatClampNeg) (1 : Int32) ko vo σo hfx) rfl rfl (Nat.le_of_ble_eq_true rfl) (Nat.le_of_ble_eq_true rfl) (jgW k_419) List.mem_cons_self (S.2.2.2.2 _ k_0) (S.2.2.2.2 _ k_418) (S.2.2.2.2 _ k_417) (by decide +kernel) (j_preS (N := fun U => xN (va_A (lC ca ad o cJ σ g) H.size) U ∧ va_Nc (jE 2) (jE 1) U) (gH_l hw) (fun U g1 mk a1 h => ⟨xN_b U g1 mk a1 h.1, h.2.moved (Vm.Alike.refl U.vm)⟩) (fun U hU hW => ⟨xN_to hN (gH_l hw) (fun _ h => h) U hU hW, hNc.moved hW.alike⟩)) rfl hl.1 (Nat.le_of_ble_eq_true rfl) dZ_law_378 ⟨by show 100 + k + 1 ≤ 601024; omega, by show 3000 + 6 * k + 6 ≤ 7293034; omega⟩) (fun H locs hw => ?_)
    have hw := gH_lb hw
    refine lv_istore (pc := 381) (lv' := [(5, .int (zR ko)), (0, .ref b), (1, .ref (ad 0)), (2, .ref (bd 0)), (3, .ref o), (4, .int (nI (5 * k)))]) hx hb dZ_law_381 hl (by decide) rfl (fun ls hl => ?_)
    refine lv_aload_n (pc := 383) hx hb dZ_law_383 rfl (lv_at hl 3 rfl) ?_
    refine lv_aload_n (pc := 384) hx hb dZ_law_384 rfl (lv_at hl 1 rfl) ?_
    refine lv_iload (pc := 385) hx hb dZ_law_385 (lv_at hl 5 rfl) ?_
    refine lv_iconst (pc := 387) (v := (1 : Int32)) hx hb dZ_law_387 (by decide) ?_
    refine lv_iadd (pc := 388) hx hb dZ_law_388 ?_
    refine va_sld (pc := 389) hx hb hX hbl (Nat.not_le.mpr hbl) hw.2.2.1 (lw_in 1 (by decide) hk hL) dZ_law_389 ?_
    refine lv_aload_n (pc := 390) hx hb dZ_law_390 rfl (lv_at hl 1 rfl) ?_
    refine lv_iload (pc := 391) hx hb dZ_law_391 (lv_at hl 5 rfl) ?_
    refine lv_iconst (pc := 393) (v := (2 : Int32)) hx hb dZ_law_393 (by decide) ?_
    refine lv_iadd (pc := 394) hx hb dZ_law_394 ?_
    refine va_sld (pc := 395) hx hb hX hbl (Nat.not_le.mpr hbl) hw.2.2.1 (lw_in 2 (by decide) hk hL) dZ_law_395 ?_
    refine lv_if_eq (pc := 396) (tgt := 403) hx hb dZ_law_396 (by decide) (fun h => absurd h hb0) (fun _ => ?_)
    refine lv_iconst (pc := 399) (v := (1 : Int32)) hx hb dZ_law_399 (by decide) ?_
    refine lv_goto (pc := 400) (tgt := 404) hx hb dZ_law_400 (by decide) ?_
    refine j_calliF (pc := 404) (C := mC cb bd) (σ' := τo) (v := w) (gH_mf hw) (fun _ h => h) (va_runV (As := [.int (xs (nI (5 * k) + 1).toNatClampNeg), .int (1 : Int32)]) (rest := []) S (kM_end l D cb bd _ τ (xs (nI (5 * k) + 1).toNatClampNeg) (1 : Int32) (w, τo) hfm) (cwV 2 S.2.2.2.2 (jgV k_744 k_745 k_746 k_7 k_747) rfl rfl rfl (by decide +kernel) ⟨Nat.le_of_ble_eq_true rfl, Nat.le_of_ble_eq_true rfl⟩) (j_preV (As := [.int (xs (nI (5 * k) + 1).toNatClampNeg), .int (1 : Int32)]) (gH_m hw) mN_b (mN_to trivial (gH_m hw) (fun _ h => h)) rfl mg_0) rfl rfl hl.1 rfl (lv_room (Nat.le_of_ble_eq_true rfl)) dZ_law_404 ⟨by show 100 + k + 1 + 0 ≤ 601024; omega, by show 3000 + 6 * k + 6 + 0 ≤ 7293034; omega⟩) (fun H locs hw => ?_)
    have hw := gH_mb hw
    refine lv_istore (pc := 407) (lv' := [(6, .int w), (5, .int (zR ko)), (0, .ref b), (1, .ref (ad 0)), (2, .ref (bd 0)), (3, .ref o), (4, .int (nI (5 * k)))]) hx hb dZ_law_407 hl (by decide) rfl (fun ls hl => ?_)
    refine lv_aload_n (pc := 409) hx hb dZ_law_409 rfl (lv_at hl 4 rfl) ?_
    refine j_cpi (pc := 410) (v := τo 100 0) (va_runV (As := []) (rest := []) S (kM_thrown l D cb bd _ τo (τo 100 0) rfl) (cwV 0 S.2.2.2.2 (jgV k_672 k_673 k_674 k_7 k_675) rfl rfl rfl (by decide +kernel) ⟨Nat.le_of_ble_eq_true rfl, Nat.le_of_ble_eq_true rfl⟩) (j_preV (As := []) (gH_m hw) mN_b (mN_to trivial (gH_m hw) (fun _ h => h)) rfl mg_0) rfl rfl hl.1 rfl (lv_room (Nat.le_of_ble_eq_true rfl)) dZ_law_410 ⟨by show 100 + k + 1 + 0 + 0 ≤ 601024; omega, by show 3000 + 6 * k + 6 + 0 + 0 ≤ 7293034; omega⟩) ?_
    refine lv_iload (pc := 413) hx hb dZ_law_413 (lv_at hl 1 rfl) ?_
    refine lv_icmp_eq (pc := 415) (tgt := 420) hx hb dZ_law_415 (by decide) (fun _ => ?_) (fun h => absurd hth h)
    refine lv_iload (pc := 420) hx hb dZ_law_420 (lv_at hl 1 rfl) ?_
    refine lv_if_ne (pc := 422) (tgt := 437) hx hb dZ_law_422 (by decide) (fun _ => ?_) (fun h0 => ?_)
    · refine lv_goto (pc := 437) (tgt := 1120) hx hb dZ_law_437 (by decide) ?_
      exact cont σo τo (zG ko vo g) _ _ _ _ _ hI2 (lv_sub hl [2, 3, 4, 5, 6] rfl) hw (by omega) (by omega)
    · have hko : ko = 0 := zR_0 h0
      subst hko
      have hv0 := hvw rfl
      subst hv0
      refine lv_aload_n (pc := 425) hx hb dZ_law_425 rfl (lv_at hl 5 rfl) ?_
      refine lv_iconst (pc := 426) (v := (0 : Int32)) hx hb dZ_law_426 (by decide) ?_
      refine va_lald (pc := 427) hx hb hw.2.2.2 hw.1 46 39 (cA := cJ) (n := 1) (f := zG 0 vo g) rfl rfl vp00 dZ_law_427 ?_
      refine lv_iload (pc := 428) hx hb dZ_law_428 (lv_at hl 0 rfl) ?_
      refine lv_i2l (pc := 430) (v := vo.toInt64) hx hb dZ_law_430 rfl ?_
      refine j_lcmp0 (pc := 431) (tgt := 437) hx hb dZ_law_431 dZ_law_432 (by decide) rfl ?_
      refine lv_goto (pc := 437) (tgt := 1120) hx hb dZ_law_437 (by decide) ?_
      exact cont σo τo (zG 0 vo g) _ _ _ _ _ hI2 (lv_sub hl [2, 3, 4, 5, 6] rfl) hw (by omega) (by omega)
set_option maxHeartbeats 4000000 in
set_option maxRecDepth 100000 in
theorem cs_save {p : Program} {l : Launch} {e : Env} {s : State} {m : MethodId} {below : List Frame} {meth : Method} {c : Code} {b L : Nat} {xs : Nat → Int32} {D : va_G} {ca cb : Nat → ClassId} {ad bd : Nat → Nat} {o : Nat} {cJ : ClassId} {Q : State → Prop} (I : JS → JS → Prop) (hl9 : l.stackTraces = false) (S : CallFix p m c code 7 s #[Value.ref b] jall RZ) (hN : xN (gA s) s) (hNc : va_Nc (jE 2) (jE 1) s) (hX : va_X b L xs s s.heap) (hbl : b < s.heap.size) (hL : L ≤ 2560) (k : Nat) (hk : 5 * k + 5 ≤ L)  (ho : jo_save I) (cont : ∀ (σ τ : JS) (g : Nat → Int64) (ls : Array Slot) (H : Heap) (locs : List Loc) (cells slots : Nat), I σ τ → lv_has ls 7 [(0, .ref b), (1, .ref (ad 0)), (2, .ref (bd 0)), (3, .ref o), (4, .int (nI (5 * k)))] → jH D (gT ca cb cJ) (gC ca ad cb bd o cJ σ τ g) (gA s) s.heap H locs s → cells ≤ 101 + k → slots ≤ 3006 + 6 * k → W p l e room_1 s m #[Value.ref b] below meth c H locs cells slots Q (F0 m 1120 ls [])) (σ τ : JS) (g : Nat → Int64) (ls : Array Slot) (H : Heap) (locs : List Loc) (hI : I σ τ) (hl : lv_has ls 7 [(0, .ref b), (1, .ref (ad 0)), (2, .ref (bd 0)), (3, .ref o), (4, .int (nI (5 * k)))]) (hw : jH D (gT ca cb cJ) (gC ca ad cb bd o cJ σ τ g) (gA s) s.heap H locs s) : W p l e room_1 s m #[Value.ref b] below meth c H locs (100 + k) (3000 + 6 * k) Q (F0 m 440 ls []) := by
  have hx := S.1
  have hb := S.2.1
  obtain ⟨ko, vo, σo, w, τo, hfx, hfm, hth, hvw, hI2⟩ := ho σ τ (xs (nI (5 * k) + 1).toNatClampNeg) (xs (nI (5 * k) + 2).toNatClampNeg) hI
  refine lv_aload_n (pc := 440) hx hb dZ_law_440 rfl (lv_at hl 1 rfl) ?_
  refine lv_aload_n (pc := 441) hx hb dZ_law_441 rfl (lv_at hl 0 rfl) ?_
  refine lv_iload (pc := 442) hx hb dZ_law_442 (lv_at hl 4 rfl) ?_
  refine lv_iconst (pc := 444) (v := (1 : Int32)) hx hb dZ_law_444 (by decide) ?_
  refine lv_iadd (pc := 445) hx hb dZ_law_445 ?_
  refine va_sld (pc := 446) hx hb hX hbl (Nat.not_le.mpr hbl) hw.2.2.1 (lw_in 1 (by decide) hk hL) dZ_law_446 ?_
  refine lv_aload_n (pc := 447) hx hb dZ_law_447 rfl (lv_at hl 0 rfl) ?_
  refine lv_iload (pc := 448) hx hb dZ_law_448 (lv_at hl 4 rfl) ?_
  refine lv_iconst (pc := 450) (v := (2 : Int32)) hx hb dZ_law_450 (by decide) ?_
  refine lv_iadd (pc := 451) hx hb dZ_law_451 ?_
  refine va_sld (pc := 452) hx hb hX hbl (Nat.not_le.mpr hbl) hw.2.2.1 (lw_in 2 (by decide) hk hL) dZ_law_452 ?_
  refine lv_aload_n (pc := 453) hx hb dZ_law_453 rfl (lv_at hl 3 rfl) ?_
  refine j_callZ (pc := 454) (v := zR ko) (σo := σo) (go := zG ko vo g) (gH_lf hw) (fun _ h => h) (j_runSW (n := 4) (As := [.ref (ad 0), .int (xs (nI (5 * k) + 1).toNatClampNeg), .int (xs (nI (5 * k) + 2).toNatClampNeg), .ref o]) (rest := []) (bytes := cZ_save) (maxL := 5) (ret := some .int) (hh := [(0, 10, 13, 13), (0, 10, 17, 15)]) S (kZ_save l hl9 D ca ad o cJ _ σ g (xs (nI (5 * k) + 1).toNatClampNeg) (xs (nI (5 * k) + 2).toNatClampNeg) ko vo σo hfx) rfl rfl (Nat.le_of_ble_eq_true rfl) (Nat.le_of_ble_eq_true rfl) (jgW k_435) List.mem_cons_self (S.2.2.2.2 _ k_0) (S.2.2.2.2 _ k_434) (S.2.2.2.2 _ k_433) (by decide +kernel) (j_preS (N := fun U => xN (va_A (lC ca ad o cJ σ g) H.size) U ∧ va_Nc (jE 2) (jE 1) U) (gH_l hw) (fun U g1 mk a1 h => ⟨xN_b U g1 mk a1 h.1, h.2.moved (Vm.Alike.refl U.vm)⟩) (fun U hU hW => ⟨xN_to hN (gH_l hw) (fun _ h => h) U hU hW, hNc.moved hW.alike⟩)) rfl hl.1 (Nat.le_of_ble_eq_true rfl) dZ_law_454 ⟨by show 100 + k + 1 ≤ 601024; omega, by show 3000 + 6 * k + 6 ≤ 7293034; omega⟩) (fun H locs hw => ?_)
  have hw := gH_lb hw
  refine lv_istore (pc := 457) (lv' := [(5, .int (zR ko)), (0, .ref b), (1, .ref (ad 0)), (2, .ref (bd 0)), (3, .ref o), (4, .int (nI (5 * k)))]) hx hb dZ_law_457 hl (by decide) rfl (fun ls hl => ?_)
  refine lv_aload_n (pc := 459) hx hb dZ_law_459 rfl (lv_at hl 3 rfl) ?_
  refine lv_aload_n (pc := 460) hx hb dZ_law_460 rfl (lv_at hl 1 rfl) ?_
  refine lv_iload (pc := 461) hx hb dZ_law_461 (lv_at hl 5 rfl) ?_
  refine lv_iconst (pc := 463) (v := (1 : Int32)) hx hb dZ_law_463 (by decide) ?_
  refine lv_iadd (pc := 464) hx hb dZ_law_464 ?_
  refine va_sld (pc := 465) hx hb hX hbl (Nat.not_le.mpr hbl) hw.2.2.1 (lw_in 1 (by decide) hk hL) dZ_law_465 ?_
  refine lv_aload_n (pc := 466) hx hb dZ_law_466 rfl (lv_at hl 1 rfl) ?_
  refine lv_iload (pc := 467) hx hb dZ_law_467 (lv_at hl 5 rfl) ?_
  refine lv_iconst (pc := 469) (v := (2 : Int32)) hx hb dZ_law_469 (by decide) ?_
  refine lv_iadd (pc := 470) hx hb dZ_law_470 ?_
  refine va_sld (pc := 471) hx hb hX hbl (Nat.not_le.mpr hbl) hw.2.2.1 (lw_in 2 (by decide) hk hL) dZ_law_471 ?_
  refine j_calliF (pc := 472) (C := mC cb bd) (σ' := τo) (v := w) (gH_mf hw) (fun _ h => h) (va_runV (As := [.int (xs (nI (5 * k) + 1).toNatClampNeg), .int (xs (nI (5 * k) + 2).toNatClampNeg)]) (rest := []) S (kM_save l D cb bd _ τ (xs (nI (5 * k) + 1).toNatClampNeg) (xs (nI (5 * k) + 2).toNatClampNeg) (w, τo) hfm) (cwV 2 S.2.2.2.2 (jgV k_752 k_753 k_754 k_7 k_755) rfl rfl rfl (by decide +kernel) ⟨Nat.le_of_ble_eq_true rfl, Nat.le_of_ble_eq_true rfl⟩) (j_preV (As := [.int (xs (nI (5 * k) + 1).toNatClampNeg), .int (xs (nI (5 * k) + 2).toNatClampNeg)]) (gH_m hw) mN_b (mN_to trivial (gH_m hw) (fun _ h => h)) rfl mg_0) rfl rfl hl.1 rfl (lv_room (Nat.le_of_ble_eq_true rfl)) dZ_law_472 ⟨by show 100 + k + 1 + 0 ≤ 601024; omega, by show 3000 + 6 * k + 6 + 0 ≤ 7293034; omega⟩) (fun H locs hw => ?_)
  have hw := gH_mb hw
  refine lv_istore (pc := 475) (lv' := [(6, .int w), (5, .int (zR ko)), (0, .ref b), (1, .ref (ad 0)), (2, .ref (bd 0)), (3, .ref o), (4, .int (nI (5 * k)))]) hx hb dZ_law_475 hl (by decide) rfl (fun ls hl => ?_)
  refine lv_aload_n (pc := 477) hx hb dZ_law_477 rfl (lv_at hl 4 rfl) ?_
  refine j_cpi (pc := 478) (v := τo 100 0) (va_runV (As := []) (rest := []) S (kM_thrown l D cb bd _ τo (τo 100 0) rfl) (cwV 0 S.2.2.2.2 (jgV k_672 k_673 k_674 k_7 k_675) rfl rfl rfl (by decide +kernel) ⟨Nat.le_of_ble_eq_true rfl, Nat.le_of_ble_eq_true rfl⟩) (j_preV (As := []) (gH_m hw) mN_b (mN_to trivial (gH_m hw) (fun _ h => h)) rfl mg_0) rfl rfl hl.1 rfl (lv_room (Nat.le_of_ble_eq_true rfl)) dZ_law_478 ⟨by show 100 + k + 1 + 0 + 0 ≤ 601024; omega, by show 3000 + 6 * k + 6 + 0 + 0 ≤ 7293034; omega⟩) ?_
  refine lv_iload (pc := 481) hx hb dZ_law_481 (lv_at hl 1 rfl) ?_
  refine lv_icmp_eq (pc := 483) (tgt := 488) hx hb dZ_law_483 (by decide) (fun _ => ?_) (fun h => absurd hth h)
  refine lv_iload (pc := 488) hx hb dZ_law_488 (lv_at hl 1 rfl) ?_
  refine lv_if_ne (pc := 490) (tgt := 505) hx hb dZ_law_490 (by decide) (fun _ => ?_) (fun h0 => ?_)
  · refine lv_goto (pc := 505) (tgt := 1120) hx hb dZ_law_505 (by decide) ?_
    exact cont σo τo (zG ko vo g) _ _ _ _ _ hI2 (lv_sub hl [2, 3, 4, 5, 6] rfl) hw (by omega) (by omega)
  · have hko : ko = 0 := zR_0 h0
    subst hko
    have hv0 := hvw rfl
    subst hv0
    refine lv_aload_n (pc := 493) hx hb dZ_law_493 rfl (lv_at hl 5 rfl) ?_
    refine lv_iconst (pc := 494) (v := (0 : Int32)) hx hb dZ_law_494 (by decide) ?_
    refine va_lald (pc := 495) hx hb hw.2.2.2 hw.1 46 39 (cA := cJ) (n := 1) (f := zG 0 vo g) rfl rfl vp00 dZ_law_495 ?_
    refine lv_iload (pc := 496) hx hb dZ_law_496 (lv_at hl 0 rfl) ?_
    refine lv_i2l (pc := 498) (v := vo.toInt64) hx hb dZ_law_498 rfl ?_
    refine j_lcmp0 (pc := 499) (tgt := 505) hx hb dZ_law_499 dZ_law_500 (by decide) rfl ?_
    refine lv_goto (pc := 505) (tgt := 1120) hx hb dZ_law_505 (by decide) ?_
    exact cont σo τo (zG 0 vo g) _ _ _ _ _ hI2 (lv_sub hl [2, 3, 4, 5, 6] rfl) hw (by omega) (by omega)
set_option maxHeartbeats 4000000 in
set_option maxRecDepth 100000 in
theorem cs_restore {p : Program} {l : Launch} {e : Env} {s : State} {m : MethodId} {below : List Frame} {meth : Method} {c : Code} {b L : Nat} {xs : Nat → Int32} {D : va_G} {ca cb : Nat → ClassId} {ad bd : Nat → Nat} {o : Nat} {cJ : ClassId} {Q : State → Prop} (I : JS → JS → Prop) (hl9 : l.stackTraces = false) (S : CallFix p m c code 7 s #[Value.ref b] jall RZ) (hN : xN (gA s) s) (hNc : va_Nc (jE 2) (jE 1) s) (hX : va_X b L xs s s.heap) (hbl : b < s.heap.size) (hL : L ≤ 2560) (k : Nat) (hk : 5 * k + 5 ≤ L)  (ho : jo_restore I) (cont : ∀ (σ τ : JS) (g : Nat → Int64) (ls : Array Slot) (H : Heap) (locs : List Loc) (cells slots : Nat), I σ τ → lv_has ls 7 [(0, .ref b), (1, .ref (ad 0)), (2, .ref (bd 0)), (3, .ref o), (4, .int (nI (5 * k)))] → jH D (gT ca cb cJ) (gC ca ad cb bd o cJ σ τ g) (gA s) s.heap H locs s → cells ≤ 101 + k → slots ≤ 3006 + 6 * k → W p l e room_1 s m #[Value.ref b] below meth c H locs cells slots Q (F0 m 1120 ls [])) (σ τ : JS) (g : Nat → Int64) (ls : Array Slot) (H : Heap) (locs : List Loc) (hI : I σ τ) (hl : lv_has ls 7 [(0, .ref b), (1, .ref (ad 0)), (2, .ref (bd 0)), (3, .ref o), (4, .int (nI (5 * k)))]) (hw : jH D (gT ca cb cJ) (gC ca ad cb bd o cJ σ τ g) (gA s) s.heap H locs s) : W p l e room_1 s m #[Value.ref b] below meth c H locs (100 + k) (3000 + 6 * k) Q (F0 m 508 ls []) := by
  have hx := S.1
  have hb := S.2.1
  obtain ⟨ko, vo, σo, w, τo, hfx, hfm, hth, hvw, hI2⟩ := ho σ τ (xs (nI (5 * k) + 1).toNatClampNeg) hI
  refine lv_aload_n (pc := 508) hx hb dZ_law_508 rfl (lv_at hl 1 rfl) ?_
  refine lv_aload_n (pc := 509) hx hb dZ_law_509 rfl (lv_at hl 0 rfl) ?_
  refine lv_iload (pc := 510) hx hb dZ_law_510 (lv_at hl 4 rfl) ?_
  refine lv_iconst (pc := 512) (v := (1 : Int32)) hx hb dZ_law_512 (by decide) ?_
  refine lv_iadd (pc := 513) hx hb dZ_law_513 ?_
  refine va_sld (pc := 514) hx hb hX hbl (Nat.not_le.mpr hbl) hw.2.2.1 (lw_in 1 (by decide) hk hL) dZ_law_514 ?_
  refine lv_aload_n (pc := 515) hx hb dZ_law_515 rfl (lv_at hl 3 rfl) ?_
  refine j_callZ (pc := 516) (v := zR ko) (σo := σo) (go := zG ko vo g) (gH_lf hw) (fun _ h => h) (j_runSW (n := 3) (As := [.ref (ad 0), .int (xs (nI (5 * k) + 1).toNatClampNeg), .ref o]) (rest := []) (bytes := cZ_restore) (maxL := 4) (ret := some .int) (hh := [(0, 9, 12, 13), (0, 9, 15, 15)]) S (kZ_restore l hl9 D ca ad o cJ _ σ g (xs (nI (5 * k) + 1).toNatClampNeg) ko vo σo hfx) rfl rfl (Nat.le_of_ble_eq_true rfl) (Nat.le_of_ble_eq_true rfl) (jgW k_457) List.mem_cons_self (S.2.2.2.2 _ k_0) (S.2.2.2.2 _ k_456) (S.2.2.2.2 _ k_455) (by decide +kernel) (j_preS (N := fun U => xN (va_A (lC ca ad o cJ σ g) H.size) U ∧ va_Nc (jE 2) (jE 1) U) (gH_l hw) (fun U g1 mk a1 h => ⟨xN_b U g1 mk a1 h.1, h.2.moved (Vm.Alike.refl U.vm)⟩) (fun U hU hW => ⟨xN_to hN (gH_l hw) (fun _ h => h) U hU hW, hNc.moved hW.alike⟩)) rfl hl.1 (Nat.le_of_ble_eq_true rfl) dZ_law_516 ⟨by show 100 + k + 1 ≤ 601024; omega, by show 3000 + 6 * k + 6 ≤ 7293034; omega⟩) (fun H locs hw => ?_)
  have hw := gH_lb hw
  refine lv_istore (pc := 519) (lv' := [(5, .int (zR ko)), (0, .ref b), (1, .ref (ad 0)), (2, .ref (bd 0)), (3, .ref o), (4, .int (nI (5 * k)))]) hx hb dZ_law_519 hl (by decide) rfl (fun ls hl => ?_)
  refine lv_aload_n (pc := 521) hx hb dZ_law_521 rfl (lv_at hl 3 rfl) ?_
  refine lv_aload_n (pc := 522) hx hb dZ_law_522 rfl (lv_at hl 1 rfl) ?_
  refine lv_iload (pc := 523) hx hb dZ_law_523 (lv_at hl 5 rfl) ?_
  refine lv_iconst (pc := 525) (v := (1 : Int32)) hx hb dZ_law_525 (by decide) ?_
  refine lv_iadd (pc := 526) hx hb dZ_law_526 ?_
  refine va_sld (pc := 527) hx hb hX hbl (Nat.not_le.mpr hbl) hw.2.2.1 (lw_in 1 (by decide) hk hL) dZ_law_527 ?_
  refine j_calliF (pc := 528) (C := mC cb bd) (σ' := τo) (v := w) (gH_mf hw) (fun _ h => h) (va_runV (As := [.int (xs (nI (5 * k) + 1).toNatClampNeg)]) (rest := []) S (kM_restore l D cb bd _ τ (xs (nI (5 * k) + 1).toNatClampNeg) (w, τo) hfm) (cwV 1 S.2.2.2.2 (jgV k_760 k_761 k_762 k_7 k_763) rfl rfl rfl (by decide +kernel) ⟨Nat.le_of_ble_eq_true rfl, Nat.le_of_ble_eq_true rfl⟩) (j_preV (As := [.int (xs (nI (5 * k) + 1).toNatClampNeg)]) (gH_m hw) mN_b (mN_to trivial (gH_m hw) (fun _ h => h)) rfl mg_0) rfl rfl hl.1 rfl (lv_room (Nat.le_of_ble_eq_true rfl)) dZ_law_528 ⟨by show 100 + k + 1 + 0 ≤ 601024; omega, by show 3000 + 6 * k + 6 + 0 ≤ 7293034; omega⟩) (fun H locs hw => ?_)
  have hw := gH_mb hw
  refine lv_istore (pc := 531) (lv' := [(6, .int w), (5, .int (zR ko)), (0, .ref b), (1, .ref (ad 0)), (2, .ref (bd 0)), (3, .ref o), (4, .int (nI (5 * k)))]) hx hb dZ_law_531 hl (by decide) rfl (fun ls hl => ?_)
  refine lv_aload_n (pc := 533) hx hb dZ_law_533 rfl (lv_at hl 4 rfl) ?_
  refine j_cpi (pc := 534) (v := τo 100 0) (va_runV (As := []) (rest := []) S (kM_thrown l D cb bd _ τo (τo 100 0) rfl) (cwV 0 S.2.2.2.2 (jgV k_672 k_673 k_674 k_7 k_675) rfl rfl rfl (by decide +kernel) ⟨Nat.le_of_ble_eq_true rfl, Nat.le_of_ble_eq_true rfl⟩) (j_preV (As := []) (gH_m hw) mN_b (mN_to trivial (gH_m hw) (fun _ h => h)) rfl mg_0) rfl rfl hl.1 rfl (lv_room (Nat.le_of_ble_eq_true rfl)) dZ_law_534 ⟨by show 100 + k + 1 + 0 + 0 ≤ 601024; omega, by show 3000 + 6 * k + 6 + 0 + 0 ≤ 7293034; omega⟩) ?_
  refine lv_iload (pc := 537) hx hb dZ_law_537 (lv_at hl 1 rfl) ?_
  refine lv_icmp_eq (pc := 539) (tgt := 544) hx hb dZ_law_539 (by decide) (fun _ => ?_) (fun h => absurd hth h)
  refine lv_iload (pc := 544) hx hb dZ_law_544 (lv_at hl 1 rfl) ?_
  refine lv_if_ne (pc := 546) (tgt := 561) hx hb dZ_law_546 (by decide) (fun _ => ?_) (fun h0 => ?_)
  · refine lv_goto (pc := 561) (tgt := 1120) hx hb dZ_law_561 (by decide) ?_
    exact cont σo τo (zG ko vo g) _ _ _ _ _ hI2 (lv_sub hl [2, 3, 4, 5, 6] rfl) hw (by omega) (by omega)
  · have hko : ko = 0 := zR_0 h0
    subst hko
    have hv0 := hvw rfl
    subst hv0
    refine lv_aload_n (pc := 549) hx hb dZ_law_549 rfl (lv_at hl 5 rfl) ?_
    refine lv_iconst (pc := 550) (v := (0 : Int32)) hx hb dZ_law_550 (by decide) ?_
    refine va_lald (pc := 551) hx hb hw.2.2.2 hw.1 46 39 (cA := cJ) (n := 1) (f := zG 0 vo g) rfl rfl vp00 dZ_law_551 ?_
    refine lv_iload (pc := 552) hx hb dZ_law_552 (lv_at hl 0 rfl) ?_
    refine lv_i2l (pc := 554) (v := vo.toInt64) hx hb dZ_law_554 rfl ?_
    refine j_lcmp0 (pc := 555) (tgt := 561) hx hb dZ_law_555 dZ_law_556 (by decide) rfl ?_
    refine lv_goto (pc := 561) (tgt := 1120) hx hb dZ_law_561 (by decide) ?_
    exact cont σo τo (zG 0 vo g) _ _ _ _ _ hI2 (lv_sub hl [2, 3, 4, 5, 6] rfl) hw (by omega) (by omega)
