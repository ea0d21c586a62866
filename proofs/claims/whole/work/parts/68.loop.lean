def jOps (I : JS → JS → Prop) : Prop := jo_file I ∧ jo_change I ∧ jo_get I ∧ jo_disk I ∧ jo_end I ∧ jo_save I ∧ jo_restore I ∧ jo_apply I ∧ jo_remove I ∧ jo_number I ∧ jo_last I ∧ jo_boundary I ∧ jo_entry I ∧ jo_drop I ∧ jo_cut I ∧ jo_start I ∧ jo_link I ∧ jo_ack I ∧ jo_takeOver I ∧ jo_remote I
theorem lw_more {k L : Nat} (hL : L ≤ 2560) (hk : k ≤ 512) (h : ¬ (Int32.ofNat L - 5) < nI (5 * k)) : 5 * k + 5 ≤ L := by
  refine Nat.not_lt.mp fun hlt => h ?_
  rw [Int32.lt_iff_toInt_lt, nI_toInt (by omega)]
  have h1 : (nI L - nI 5).toInt = (L : Int) - 5 := pk_sub_toInt (by omega) (by omega)
  have h2 : (Int32.ofNat L - 5).toInt = (L : Int) - 5 := h1
  rw [h2]
  omega
theorem lw_next (k : Nat) : nI (5 * k) + Int32.ofInt 5 = nI (5 * (k + 1)) := by
  have h : Int32.ofInt 5 = nI 5 := by decide
  rw [h, nI_add]
  congr 1
set_option maxHeartbeats 4000000 in
set_option maxRecDepth 100000 in
theorem lw_loop {p : Program} {l : Launch} {e : Env} {s : State} {m : MethodId} {below : List Frame} {meth : Method} {c : Code} {b L : Nat} {xs : Nat → Int32} {D : va_G} {ca cb : Nat → ClassId} {ad bd : Nat → Nat} {o : Nat} {cJ : ClassId} (I : JS → JS → Prop) (hops : jOps I) (hl9 : l.stackTraces = false) (S : CallFix p m c code 7 s #[Value.ref b] jall RZ) (hN : xN (gA s) s) (hNc : va_Nc (jE 2) (jE 1) s) (hX : va_X b L xs s s.heap) (hbl : b < s.heap.size) (hL : L ≤ 2560) (hr : meth.sig.returnType = ret) (hlk : meth.locks = false) : ∀ (n k : Nat), k + n = 513 → k ≤ 512 → ∀ (σ τ : JS) (g : Nat → Int64) (ls : Array Slot) (H : Heap) (locs : List Loc), I σ τ → lv_has ls 7 [(0, .ref b), (1, .ref (ad 0)), (2, .ref (bd 0)), (3, .ref o), (4, .int (nI (5 * k)))] → jH D (gT ca cb cJ) (gC ca ad cb bd o cJ σ τ g) (gA s) s.heap H locs s → W p l e room_1 s m #[Value.ref b] below meth c H locs (100 + k) (3000 + 6 * k) (lw_Z below #[Value.ref b] s) (F0 m 23 ls []) := by
  have hx := S.1
  have hb := S.2.1
  intro n
  induction n with
  | zero => intro k h1 h2; omega
  | succ n ih =>
    intro k hkn hkk σ τ g ls H locs hI hl hw
    refine lv_iload (pc := 23) hx hb dZ_law_23 (lv_at hl 4 rfl) ?_
    refine lv_aload_n (pc := 25) hx hb dZ_law_25 rfl (lv_at hl 0 rfl) ?_
    refine va_slen (pc := 26) hx hb hX hbl (Nat.not_le.mpr hbl) hw.2.2.1 dZ_law_26 ?_
    refine lv_iconst (pc := 27) (v := (5 : Int32)) hx hb dZ_law_27 (by decide) ?_
    refine lv_isub (pc := 28) hx hb dZ_law_28 ?_
    refine lv_icmp_gt (pc := 29) (tgt := 1126) hx hb dZ_law_29 (by decide) (fun _ => ?_) (fun hc => ?_)
    · refine lv_iconst (pc := 1126) (v := (1 : Int32)) hx hb dZ_law_1126 (by decide) ?_
      refine va_forget hw.2.2.1.2.2 ?_
      refine W.widen (k := 601024) (n := 7293034) (by omega) (by omega) ?_
      exact lw_ret (pc := 1127) hx hb hr hlk dZ_law_1127
    · have hk : 5 * k + 5 ≤ L := lw_more hL hkk hc
      have cont : ∀ (σ τ : JS) (g : Nat → Int64) (ls : Array Slot) (H : Heap) (locs : List Loc) (cells slots : Nat), I σ τ → lv_has ls 7 [(0, .ref b), (1, .ref (ad 0)), (2, .ref (bd 0)), (3, .ref o), (4, .int (nI (5 * k)))] → jH D (gT ca cb cJ) (gC ca ad cb bd o cJ σ τ g) (gA s) s.heap H locs s → cells ≤ 101 + k → slots ≤ 3006 + 6 * k → W p l e room_1 s m #[Value.ref b] below meth c H locs cells slots (lw_Z below #[Value.ref b] s) (F0 m 1120 ls []) := by
        intro σ τ g ls H locs cells slots hI hl hw h1 h2
        refine lv_iinc (pc := 1120) (v := nI (5 * (k + 1))) (k := 4) (lv' := [(4, .int (nI (5 * (k + 1)))), (0, .ref b), (1, .ref (ad 0)), (2, .ref (bd 0)), (3, .ref o)]) hx hb dZ_law_1120 hl rfl (lw_next k) (by decide) rfl (fun ls hl => ?_)
        refine lv_goto (pc := 1123) (tgt := 23) hx hb dZ_law_1123 (by decide) ?_
        refine W.widen (k := 100 + (k + 1)) (n := 3000 + 6 * (k + 1)) (by omega) (by omega) ?_
        exact ih (k + 1) (by omega) (by omega) σ τ g _ _ _ hI (lv_sub hl [1, 2, 3, 4, 0] rfl) hw
      refine lv_aload_n (pc := 32) hx hb dZ_law_32 rfl (lv_at hl 0 rfl) ?_
      refine lv_iload (pc := 33) hx hb dZ_law_33 (lv_at hl 4 rfl) ?_
      refine va_sld (pc := 35) hx hb hX hbl (Nat.not_le.mpr hbl) hw.2.2.1 (vp_in_nI (by omega) (by omega)) dZ_law_35 ?_
      refine lv_bipush (pc := 36) (v := (31 : Int32)) hx hb dZ_law_36 (by decide) ?_
      refine lv_iand (pc := 38) hx hb dZ_law_38 ?_
      generalize (xs (nI (5 * k)).toNatClampNeg &&& (31 : Int32)) = x
      by_cases hs0 : x = (0 : Int32)
      · refine lv_tableIn (pc := 39) (tgt := 132) hx hb dZ_law_39 (by rw [hs0]; decide) (by rw [hs0]; decide) (by rw [hs0]; rfl) (by decide) ?_
        exact cs_file I hl9 S hN hNc hX hbl hL k hk hops.1 cont σ τ g ls H locs hI hl hw
      by_cases hs1 : x = (1 : Int32)
      · refine lv_tableIn (pc := 39) (tgt := 188) hx hb dZ_law_39 (by rw [hs1]; decide) (by rw [hs1]; decide) (by rw [hs1]; rfl) (by decide) ?_
        exact cs_change I hl9 S hN hNc hX hbl hL k hk hops.2.1 cont σ τ g ls H locs hI hl hw
      by_cases hs2 : x = (2 : Int32)
      · refine lv_tableIn (pc := 39) (tgt := 280) hx hb dZ_law_39 (by rw [hs2]; decide) (by rw [hs2]; decide) (by rw [hs2]; rfl) (by decide) ?_
        exact cs_get I hl9 S hN hNc hX hbl hL k hk hops.2.2.1 cont σ τ g ls H locs hI hl hw
      by_cases hs3 : x = (3 : Int32)
      · refine lv_tableIn (pc := 39) (tgt := 318) hx hb dZ_law_39 (by rw [hs3]; decide) (by rw [hs3]; decide) (by rw [hs3]; rfl) (by decide) ?_
        exact cs_disk I hl9 S hN hNc hX hbl hL k hk hops.2.2.2.1 cont σ τ g ls H locs hI hl hw
      by_cases hs4 : x = (4 : Int32)
      · refine lv_tableIn (pc := 39) (tgt := 356) hx hb dZ_law_39 (by rw [hs4]; decide) (by rw [hs4]; decide) (by rw [hs4]; rfl) (by decide) ?_
        exact cs_end I hl9 S hN hNc hX hbl hL k hk hops.2.2.2.2.1 cont σ τ g ls H locs hI hl hw
      by_cases hs5 : x = (5 : Int32)
      · refine lv_tableIn (pc := 39) (tgt := 440) hx hb dZ_law_39 (by rw [hs5]; decide) (by rw [hs5]; decide) (by rw [hs5]; rfl) (by decide) ?_
        exact cs_save I hl9 S hN hNc hX hbl hL k hk hops.2.2.2.2.2.1 cont σ τ g ls H locs hI hl hw
      by_cases hs6 : x = (6 : Int32)
      · refine lv_tableIn (pc := 39) (tgt := 508) hx hb dZ_law_39 (by rw [hs6]; decide) (by rw [hs6]; decide) (by rw [hs6]; rfl) (by decide) ?_
        exact cs_restore I hl9 S hN hNc hX hbl hL k hk hops.2.2.2.2.2.2.1 cont σ τ g ls H locs hI hl hw
      by_cases hs7 : x = (7 : Int32)
      · refine lv_tableIn (pc := 39) (tgt := 564) hx hb dZ_law_39 (by rw [hs7]; decide) (by rw [hs7]; decide) (by rw [hs7]; rfl) (by decide) ?_
        exact cs_apply I hl9 S hN hNc hX hbl hL k hk hops.2.2.2.2.2.2.2.1 cont σ τ g ls H locs hI hl hw
      by_cases hs8 : x = (8 : Int32)
      · refine lv_tableIn (pc := 39) (tgt := 632) hx hb dZ_law_39 (by rw [hs8]; decide) (by rw [hs8]; decide) (by rw [hs8]; rfl) (by decide) ?_
        exact cs_remove I hl9 S hN hNc hX hbl hL k hk hops.2.2.2.2.2.2.2.2.1 cont σ τ g ls H locs hI hl hw
      by_cases hs9 : x = (9 : Int32)
      · refine lv_tableIn (pc := 39) (tgt := 700) hx hb dZ_law_39 (by rw [hs9]; decide) (by rw [hs9]; decide) (by rw [hs9]; rfl) (by decide) ?_
        exact cs_number I hl9 S hN hNc hX hbl hL k hk hops.2.2.2.2.2.2.2.2.2.1 cont σ τ g ls H locs hI hl hw
      by_cases hs10 : x = (10 : Int32)
      · refine lv_tableIn (pc := 39) (tgt := 725) hx hb dZ_law_39 (by rw [hs10]; decide) (by rw [hs10]; decide) (by rw [hs10]; rfl) (by decide) ?_
        exact cs_last I hl9 S hN hNc hX hbl hL k hk hops.2.2.2.2.2.2.2.2.2.2.1 cont σ τ g ls H locs hI hl hw
      by_cases hs11 : x = (11 : Int32)
      · refine lv_tableIn (pc := 39) (tgt := 738) hx hb dZ_law_39 (by rw [hs11]; decide) (by rw [hs11]; decide) (by rw [hs11]; rfl) (by decide) ?_
        exact cs_boundary I hl9 S hN hNc hX hbl hL k hk hops.2.2.2.2.2.2.2.2.2.2.2.1 cont σ τ g ls H locs hI hl hw
      by_cases hs12 : x = (12 : Int32)
      · refine lv_tableIn (pc := 39) (tgt := 775) hx hb dZ_law_39 (by rw [hs12]; decide) (by rw [hs12]; decide) (by rw [hs12]; rfl) (by decide) ?_
        exact cs_entry I hl9 S hN hNc hX hbl hL k hk hops.2.2.2.2.2.2.2.2.2.2.2.2.1 cont σ τ g ls H locs hI hl hw
      by_cases hs13 : x = (13 : Int32)
      · refine lv_tableIn (pc := 39) (tgt := 813) hx hb dZ_law_39 (by rw [hs13]; decide) (by rw [hs13]; decide) (by rw [hs13]; rfl) (by decide) ?_
        exact cs_drop I hl9 S hN hNc hX hbl hL k hk hops.2.2.2.2.2.2.2.2.2.2.2.2.2.1 cont σ τ g ls H locs hI hl hw
      by_cases hs14 : x = (14 : Int32)
      · refine lv_tableIn (pc := 39) (tgt := 857) hx hb dZ_law_39 (by rw [hs14]; decide) (by rw [hs14]; decide) (by rw [hs14]; rfl) (by decide) ?_
        exact cs_cut I hl9 S hN hNc hX hbl hL k hk hops.2.2.2.2.2.2.2.2.2.2.2.2.2.2.1 cont σ τ g ls H locs hI hl hw
      by_cases hs15 : x = (15 : Int32)
      · refine lv_tableIn (pc := 39) (tgt := 913) hx hb dZ_law_39 (by rw [hs15]; decide) (by rw [hs15]; decide) (by rw [hs15]; rfl) (by decide) ?_
        exact cs_start I hl9 S hN hNc hX hbl hL k hk hops.2.2.2.2.2.2.2.2.2.2.2.2.2.2.2.1 cont σ τ g ls H locs hI hl hw
      by_cases hs16 : x = (16 : Int32)
      · refine lv_tableIn (pc := 39) (tgt := 957) hx hb dZ_law_39 (by rw [hs16]; decide) (by rw [hs16]; decide) (by rw [hs16]; rfl) (by decide) ?_
        exact cs_link I hl9 S hN hNc hX hbl hL k hk hops.2.2.2.2.2.2.2.2.2.2.2.2.2.2.2.2.1 cont σ τ g ls H locs hI hl hw
      by_cases hs17 : x = (17 : Int32)
      · refine lv_tableIn (pc := 39) (tgt := 1025) hx hb dZ_law_39 (by rw [hs17]; decide) (by rw [hs17]; decide) (by rw [hs17]; rfl) (by decide) ?_
        exact cs_ack I hl9 S hN hNc hX hbl hL k hk hops.2.2.2.2.2.2.2.2.2.2.2.2.2.2.2.2.2.1 cont σ τ g ls H locs hI hl hw
      by_cases hs18 : x = (18 : Int32)
      · refine lv_tableIn (pc := 39) (tgt := 1069) hx hb dZ_law_39 (by rw [hs18]; decide) (by rw [hs18]; decide) (by rw [hs18]; rfl) (by decide) ?_
        exact cs_takeOver I hl9 S hN hNc hX hbl hL k hk hops.2.2.2.2.2.2.2.2.2.2.2.2.2.2.2.2.2.2.1 cont σ τ g ls H locs hI hl hw
      by_cases hs19 : x = (19 : Int32)
      · refine lv_tableIn (pc := 39) (tgt := 1082) hx hb dZ_law_39 (by rw [hs19]; decide) (by rw [hs19]; decide) (by rw [hs19]; rfl) (by decide) ?_
        exact cs_remote I hl9 S hN hNc hX hbl hL k hk hops.2.2.2.2.2.2.2.2.2.2.2.2.2.2.2.2.2.2.2 cont σ τ g ls H locs hI hl hw
      refine lv_tableOut (pc := 39) (tgt := 1120) hx hb dZ_law_39 (by have g0 := lv_neT hs0 (a := 0) (by decide); have g1 := lv_neT hs1 (a := 1) (by decide); have g2 := lv_neT hs2 (a := 2) (by decide); have g3 := lv_neT hs3 (a := 3) (by decide); have g4 := lv_neT hs4 (a := 4) (by decide); have g5 := lv_neT hs5 (a := 5) (by decide); have g6 := lv_neT hs6 (a := 6) (by decide); have g7 := lv_neT hs7 (a := 7) (by decide); have g8 := lv_neT hs8 (a := 8) (by decide); have g9 := lv_neT hs9 (a := 9) (by decide); have g10 := lv_neT hs10 (a := 10) (by decide); have g11 := lv_neT hs11 (a := 11) (by decide); have g12 := lv_neT hs12 (a := 12) (by decide); have g13 := lv_neT hs13 (a := 13) (by decide); have g14 := lv_neT hs14 (a := 14) (by decide); have g15 := lv_neT hs15 (a := 15) (by decide); have g16 := lv_neT hs16 (a := 16) (by decide); have g17 := lv_neT hs17 (a := 17) (by decide); have g18 := lv_neT hs18 (a := 18) (by decide); have g19 := lv_neT hs19 (a := 19) (by decide); omega) (by decide) ?_
      exact cont σ τ g ls H locs _ _ hI hl hw (by omega) (by omega)
/-- a word that every warmed state with the old heap in it keeps -/
def jKeeps (w : Cond) : Prop := ∀ (s T : State) (a b : Array Value), s.WarmedH T.vm → s.heap.size ≤ T.heap.size → (∀ q : Nat, q < s.heap.size → T.heap[q]? = s.heap[q]?) → w.before a s = true → w.before b T = true
theorem jk_nest (a : String) (i : Nat) (x : MethodName) (h : String) : jKeeps (.methodLinkNest a i x h) := fun _ _ _ _ hW _ _ hw => va_Nw.use rfl (va_Nw.warmM hW (va_Nw.of rfl hw))
theorem jk_decl (x : MethodName) : jKeeps (.declares x) := fun _ _ _ _ hW _ _ hw => va_Nw.use rfl (va_Nw.warmD hW (va_Nw.of rfl hw))
theorem jk_cast (a b : String) : jKeeps (.castable a b) := fun _ _ _ _ hW _ _ hw => va_Nw.use rfl (va_Nw.warmC hW (va_Nw.of rfl hw))
theorem jk_priv (x : MethodName) : jKeeps (.privateMethod x) := fun s T a b hW _ _ hw => va_tabs (A := a) (u := s.setVm T.vm) rfl rfl (by rw [Cond.privateMethod_setVm hW.alike]; exact hw)
theorem jk_lays (C n d : String) : jKeeps (.laysStatic C n d) := by
  intro s T a b hW hsz hk hw
  obtain ⟨c, k, i, f, q, cell, h1, h2, h3, h4, h5, h6, h7, h8, h9⟩ := Cond.laysStatic_spec hw
  obtain ⟨k1, g1, g2⟩ := State.fieldFound?_setVm hW.alike h2
  have hq : q < s.heap.size := (Array.getElem?_eq_some_iff.mp h5).1
  show (Cond.laysStatic C n d).holds b T none T [] = true
  exact Cond.laysStatic_of (by rw [hW.alike.findClass]; exact h1) g1 h3 (by rw [g2]; exact h4) (by rw [hk q hq]; exact h5) h6 h7 h8 (by rw [g2]; exact h9)
def jNb : List Cond := [(Jvm.Cond.methodLinkNest "JournalHouse" (11 : Nat) ({ cls := "JournalHouse$Journal", name := "<init>", desc := "()V" } : Jvm.MethodName) "JournalHouse"), (Jvm.Cond.methodLinkNest "JournalHouse" (18 : Nat) ({ cls := "JournalHouse$Store", name := "<init>", desc := "()V" } : Jvm.MethodName) "JournalHouse"), (Jvm.Cond.methodLinkNest "JournalHouse" (25 : Nat) ({ cls := "JournalHouse$Copies", name := "<init>", desc := "()V" } : Jvm.MethodName) "JournalHouse"), (Jvm.Cond.methodLinkNest "JournalHouse" (32 : Nat) ({ cls := "JournalHouse$Letters", name := "<init>", desc := "()V" } : Jvm.MethodName) "JournalHouse"), (Jvm.Cond.methodLinkNest "JournalHouse" (39 : Nat) ({ cls := "JournalHouse$RemoteHouse", name := "<init>", desc := "()V" } : Jvm.MethodName) "JournalHouse"), (Jvm.Cond.privateMethod ({ cls := "JournalHouse", name := "isRecord", desc := "(II)Z" } : Jvm.MethodName)), (Jvm.Cond.privateMethod ({ cls := "JournalHouse", name := "isFile", desc := "(I)Z" } : Jvm.MethodName)), (Jvm.Cond.privateMethod ({ cls := "JournalHouse", name := "partOfChange", desc := "(II)J" } : Jvm.MethodName)), (Jvm.Cond.castable "java/lang/IllegalArgumentException" "java/lang/IllegalArgumentException"), (Jvm.Cond.declares ({ cls := "java/lang/RuntimeException", name := "<init>", desc := "()V" } : Jvm.MethodName)), (Jvm.Cond.declares ({ cls := "java/lang/RuntimeException", name := "<init>", desc := "(Ljava/lang/String;)V" } : Jvm.MethodName)), (Jvm.Cond.declares ({ cls := "java/lang/Exception", name := "<init>", desc := "()V" } : Jvm.MethodName)), (Jvm.Cond.declares ({ cls := "java/lang/Exception", name := "<init>", desc := "(Ljava/lang/String;)V" } : Jvm.MethodName)), (Jvm.Cond.declares ({ cls := "java/lang/Throwable", name := "<init>", desc := "()V" } : Jvm.MethodName)), (Jvm.Cond.declares ({ cls := "java/lang/Throwable", name := "<init>", desc := "(Ljava/lang/String;)V" } : Jvm.MethodName)), (Jvm.Cond.laysStatic "java/lang/Throwable" "UNASSIGNED_STACK" "[Ljava/lang/StackTraceElement;"), (Jvm.Cond.laysStatic "java/lang/Throwable" "SUPPRESSED_SENTINEL" "Ljava/util/List;"), (Jvm.Cond.privateMethod ({ cls := "java/lang/Throwable", name := "fillInStackTrace", desc := "(I)Ljava/lang/Throwable;" } : Jvm.MethodName)), (Jvm.Cond.castable "java/lang/IllegalStateException" "java/lang/IllegalStateException"), (Jvm.Cond.privateMethod ({ cls := "JournalHouse", name := "isJob", desc := "(I)Z" } : Jvm.MethodName)), (Jvm.Cond.privateMethod ({ cls := "JournalHouse$Journal", name := "isInOpenCycle", desc := "(I)Z" } : Jvm.MethodName)), (Jvm.Cond.privateMethod ({ cls := "JournalHouse$Journal", name := "room", desc := "()I" } : Jvm.MethodName)), (Jvm.Cond.privateMethod ({ cls := "JournalHouse$Journal", name := "reserve", desc := "()I" } : Jvm.MethodName)), (Jvm.Cond.privateMethod ({ cls := "JournalHouse", name := "writeChange", desc := "(III)V" } : Jvm.MethodName)), (Jvm.Cond.methodLinkNest "JournalHouse$Journal" (43 : Nat) ({ cls := "JournalHouse", name := "fileOf", desc := "(I)I" } : Jvm.MethodName) "JournalHouse"), (Jvm.Cond.privateMethod ({ cls := "JournalHouse$Journal", name := "noteOpenFiles", desc := "()V" } : Jvm.MethodName)), (Jvm.Cond.privateMethod ({ cls := "JournalHouse", name := "rollBack", desc := "(I)V" } : Jvm.MethodName)), (Jvm.Cond.privateMethod ({ cls := "JournalHouse", name := "isSlot", desc := "(I)Z" } : Jvm.MethodName)), (Jvm.Cond.methodLinkNest "JournalHouse$Copies" (25 : Nat) ({ cls := "JournalHouse", name := "cellOf", desc := "(II)I" } : Jvm.MethodName) "JournalHouse"), (Jvm.Cond.privateMethod ({ cls := "JournalHouse", name := "bringToWanted", desc := "(II)I" } : Jvm.MethodName)), (Jvm.Cond.privateMethod ({ cls := "JournalHouse", name := "countUnwanted", desc := "(I)I" } : Jvm.MethodName)), (Jvm.Cond.privateMethod ({ cls := "JournalHouse", name := "canApply", desc := "(II)Z" } : Jvm.MethodName)), (Jvm.Cond.privateMethod ({ cls := "JournalHouse", name := "wantWhatIs", desc := "(I)V" } : Jvm.MethodName)), (Jvm.Cond.privateMethod ({ cls := "JournalHouse", name := "canRemove", desc := "(II)Z" } : Jvm.MethodName)), (Jvm.Cond.privateMethod ({ cls := "JournalHouse", name := "numberToRemoveFrom", desc := "(I)I" } : Jvm.MethodName)), (Jvm.Cond.privateMethod ({ cls := "JournalHouseModel", name := "isRecord", desc := "(II)Z" } : Jvm.MethodName)), (Jvm.Cond.privateMethod ({ cls := "JournalHouseModel", name := "isFile", desc := "(I)Z" } : Jvm.MethodName)), (Jvm.Cond.privateMethod ({ cls := "JournalHouseModel", name := "reserve", desc := "()I" } : Jvm.MethodName)), (Jvm.Cond.privateMethod ({ cls := "JournalHouseModel", name := "changesOf", desc := "(I)I" } : Jvm.MethodName)), (Jvm.Cond.privateMethod ({ cls := "JournalHouseModel", name := "cycleAt", desc := "(II)I" } : Jvm.MethodName)), (Jvm.Cond.privateMethod ({ cls := "JournalHouseModel", name := "isLocked", desc := "(III)Z" } : Jvm.MethodName)), (Jvm.Cond.privateMethod ({ cls := "JournalHouseModel", name := "room", desc := "()I" } : Jvm.MethodName)), (Jvm.Cond.privateMethod ({ cls := "JournalHouseModel", name := "refuse", desc := "(I)I" } : Jvm.MethodName)), (Jvm.Cond.privateMethod ({ cls := "JournalHouseModel", name := "put", desc := "(IIII)V" } : Jvm.MethodName)), (Jvm.Cond.privateMethod ({ cls := "JournalHouseModel", name := "note", desc := "(IIIII)V" } : Jvm.MethodName)), (Jvm.Cond.privateMethod ({ cls := "JournalHouseModel", name := "valueAt", desc := "(III)I" } : Jvm.MethodName)), (Jvm.Cond.privateMethod ({ cls := "JournalHouseModel", name := "landFirst", desc := "()V" } : Jvm.MethodName)), (Jvm.Cond.privateMethod ({ cls := "JournalHouseModel", name := "undo", desc := "(I)V" } : Jvm.MethodName)), (Jvm.Cond.privateMethod ({ cls := "JournalHouseModel", name := "isOn", desc := "(II)Z" } : Jvm.MethodName)), (Jvm.Cond.privateMethod ({ cls := "JournalHouseModel", name := "become", desc := "(III)I" } : Jvm.MethodName)), (Jvm.Cond.privateMethod ({ cls := "JournalHouseModel", name := "lacks", desc := "(III)Z" } : Jvm.MethodName)), (Jvm.Cond.privateMethod ({ cls := "JournalHouseModel", name := "isKept", desc := "(I)Z" } : Jvm.MethodName)), (Jvm.Cond.privateMethod ({ cls := "JournalHouseModel", name := "takenBack", desc := "(II)I" } : Jvm.MethodName))]
set_option maxRecDepth 100000 in
theorem jNb_all : ∀ w ∈ lw_tbl, goodWord w = true ∨ w ∈ jNb := by decide +kernel
theorem jNb_keeps : ∀ w ∈ jNb, jKeeps w := List.forall_mem_cons.mpr ⟨jk_nest _ _ _ _, List.forall_mem_cons.mpr ⟨jk_nest _ _ _ _, List.forall_mem_cons.mpr ⟨jk_nest _ _ _ _, List.forall_mem_cons.mpr ⟨jk_nest _ _ _ _, List.forall_mem_cons.mpr ⟨jk_nest _ _ _ _, List.forall_mem_cons.mpr ⟨jk_priv _, List.forall_mem_cons.mpr ⟨jk_priv _, List.forall_mem_cons.mpr ⟨jk_priv _, List.forall_mem_cons.mpr ⟨jk_cast _ _, List.forall_mem_cons.mpr ⟨jk_decl _, List.forall_mem_cons.mpr ⟨jk_decl _, List.forall_mem_cons.mpr ⟨jk_decl _, List.forall_mem_cons.mpr ⟨jk_decl _, List.forall_mem_cons.mpr ⟨jk_decl _, List.forall_mem_cons.mpr ⟨jk_decl _, List.forall_mem_cons.mpr ⟨jk_lays _ _ _, List.forall_mem_cons.mpr ⟨jk_lays _ _ _, List.forall_mem_cons.mpr ⟨jk_priv _, List.forall_mem_cons.mpr ⟨jk_cast _ _, List.forall_mem_cons.mpr ⟨jk_priv _, List.forall_mem_cons.mpr ⟨jk_priv _, List.forall_mem_cons.mpr ⟨jk_priv _, List.forall_mem_cons.mpr ⟨jk_priv _, List.forall_mem_cons.mpr ⟨jk_priv _, List.forall_mem_cons.mpr ⟨jk_nest _ _ _ _, List.forall_mem_cons.mpr ⟨jk_priv _, List.forall_mem_cons.mpr ⟨jk_priv _, List.forall_mem_cons.mpr ⟨jk_priv _, List.forall_mem_cons.mpr ⟨jk_nest _ _ _ _, List.forall_mem_cons.mpr ⟨jk_priv _, List.forall_mem_cons.mpr ⟨jk_priv _, List.forall_mem_cons.mpr ⟨jk_priv _, List.forall_mem_cons.mpr ⟨jk_priv _, List.forall_mem_cons.mpr ⟨jk_priv _, List.forall_mem_cons.mpr ⟨jk_priv _, List.forall_mem_cons.mpr ⟨jk_priv _, List.forall_mem_cons.mpr ⟨jk_priv _, List.forall_mem_cons.mpr ⟨jk_priv _, List.forall_mem_cons.mpr ⟨jk_priv _, List.forall_mem_cons.mpr ⟨jk_priv _, List.forall_mem_cons.mpr ⟨jk_priv _, List.forall_mem_cons.mpr ⟨jk_priv _, List.forall_mem_cons.mpr ⟨jk_priv _, List.forall_mem_cons.mpr ⟨jk_priv _, List.forall_mem_cons.mpr ⟨jk_priv _, List.forall_mem_cons.mpr ⟨jk_priv _, List.forall_mem_cons.mpr ⟨jk_priv _, List.forall_mem_cons.mpr ⟨jk_priv _, List.forall_mem_cons.mpr ⟨jk_priv _, List.forall_mem_cons.mpr ⟨jk_priv _, List.forall_mem_cons.mpr ⟨jk_priv _, List.forall_mem_cons.mpr ⟨jk_priv _, List.forall_mem_cons.mpr ⟨jk_priv _, fun _ h => absurd h List.not_mem_nil⟩⟩⟩⟩⟩⟩⟩⟩⟩⟩⟩⟩⟩⟩⟩⟩⟩⟩⟩⟩⟩⟩⟩⟩⟩⟩⟩⟩⟩⟩⟩⟩⟩⟩⟩⟩⟩⟩⟩⟩⟩⟩⟩⟩⟩⟩⟩⟩⟩⟩⟩⟩⟩
theorem jk_ref {C n d : String} {s T : State} {a b : Array Value} (hl : (Cond.laysStatic C n d).before a s = true) (hi : (Cond.initialized C).before a s = true) (hr : (Cond.isRef (.static C n d)).before a s = true) (hW : s.WarmedH T.vm) (hk : ∀ q : Nat, q < s.heap.size → T.heap[q]? = s.heap[q]?) : (Cond.isRef (.static C n d)).before b T = true := by
  have h1 := (va_Zqof (A := fun _ => False) hl hi hr (fun _ _ h => h)).kept (H1 := T.heap) (fun q hq _ => hk q hq)
  have h2 := va_Zq.moved hW.alike h1
  have key : ∀ v : Value, v.isRef = true → va_Z C n d v (fun _ => False) T T.heap → (Cond.isRef (.static C n d)).before b T = true := by
    intro v hv hz
    obtain ⟨cf, kf, fi, f, q, cell, g1, g2, g3, g4, g5, g6, g7, -⟩ := hz
    have he : (Term.static C n d).eval b T none [] T = some v := by simp [Term.eval, State.fieldNamed?, g1, g2, g4, g5, g6, g7]
    simp only [Cond.before, Cond.holds, Cond.value, he]
    cases v <;> simp_all [Value.isRef]
  rcases h2 with h | ⟨t, h⟩
  · exact key _ rfl h
  · exact key _ rfl h
set_option maxRecDepth 100000 in
theorem lw_xN {s : State} {a : Array Value} (hts : ∀ w ∈ lw_tbl, w.before a s = true) (hU : (Cond.isRef (.static "java/lang/Throwable" "UNASSIGNED_STACK" "[Ljava/lang/StackTraceElement;")).before a s = true) (hV : (Cond.isRef (.static "java/lang/Throwable" "SUPPRESSED_SENTINEL" "Ljava/util/List;")).before a s = true) : xN (gA s) s := by
  intro w hw T b hW hsz hk0
  have hk : ∀ q : Nat, q < s.heap.size → T.heap[q]? = s.heap[q]? := fun q hq => hk0 q hq (Nat.not_le.mpr hq)
  rcases List.mem_append.mp hw with h | h
  · obtain ⟨h1, h2⟩ := List.mem_filter.mp h
    rcases jNb_all w h1 with h3 | h3
    · rw [h3] at h2; cases h2
    · exact jNb_keeps w h3 s T a b hW hsz hk (hts w h1)
  · rcases List.mem_cons.mp h with rfl | h
    · exact jk_ref (hts _ (by decide +kernel)) (hts _ (by decide +kernel)) hU hW hk
    · rcases List.mem_cons.mp h with rfl | h
      · exact jk_ref (hts _ (by decide +kernel)) (hts _ (by decide +kernel)) hV hW hk
      · cases h
