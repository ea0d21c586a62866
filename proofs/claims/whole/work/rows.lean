section
-- ===== PART A: goes FIRST, ahead of the names: the tables' words, and 'selects' of the private methods out of them =====
/-- a private method of a class that the tables say can be made, by its rows of tables_1 -/
def lw_okq (q : MethodName × Nat) : Prop := (q.1.cls ≠ "java/lang/invoke/MethodHandle" ∧ q.1.cls ≠ "java/lang/invoke/VarHandle") ∧ Cond.instantiable q.1.cls q.2 ∈ tables_1 ∧ Cond.privateMethod q.1 ∈ tables_1 ∧ Cond.instanceMethod q.1 ∈ tables_1
theorem lw_p0 : lw_okq (⟨"JournalHouse", "isRecord", "(II)Z"⟩, 12) := ⟨⟨by decide +kernel, by decide +kernel⟩, List.mem_of_getElem? (i := 16) (by decide +kernel), List.mem_of_getElem? (i := 204) (by decide +kernel), List.mem_of_getElem? (i := 205) (by decide +kernel)⟩
theorem lw_p1 : lw_okq (⟨"JournalHouse", "isFile", "(I)Z"⟩, 12) := ⟨⟨by decide +kernel, by decide +kernel⟩, List.mem_of_getElem? (i := 16) (by decide +kernel), List.mem_of_getElem? (i := 208) (by decide +kernel), List.mem_of_getElem? (i := 209) (by decide +kernel)⟩
theorem lw_p2 : lw_okq (⟨"JournalHouse", "partOfChange", "(II)J"⟩, 12) := ⟨⟨by decide +kernel, by decide +kernel⟩, List.mem_of_getElem? (i := 16) (by decide +kernel), List.mem_of_getElem? (i := 248) (by decide +kernel), List.mem_of_getElem? (i := 249) (by decide +kernel)⟩
theorem lw_p3 : lw_okq (⟨"java/lang/Throwable", "fillInStackTrace", "(I)Ljava/lang/Throwable;"⟩, 6) := ⟨⟨by decide +kernel, by decide +kernel⟩, List.mem_of_getElem? (i := 316) (by decide +kernel), List.mem_of_getElem? (i := 314) (by decide +kernel), List.mem_of_getElem? (i := 315) (by decide +kernel)⟩
theorem lw_p4 : lw_okq (⟨"JournalHouse", "isJob", "(I)Z"⟩, 12) := ⟨⟨by decide +kernel, by decide +kernel⟩, List.mem_of_getElem? (i := 16) (by decide +kernel), List.mem_of_getElem? (i := 363) (by decide +kernel), List.mem_of_getElem? (i := 364) (by decide +kernel)⟩
theorem lw_p5 : lw_okq (⟨"JournalHouse$Journal", "isInOpenCycle", "(I)Z"⟩, 11) := ⟨⟨by decide +kernel, by decide +kernel⟩, List.mem_of_getElem? (i := 24) (by decide +kernel), List.mem_of_getElem? (i := 371) (by decide +kernel), List.mem_of_getElem? (i := 372) (by decide +kernel)⟩
theorem lw_p6 : lw_okq (⟨"JournalHouse$Journal", "room", "()I"⟩, 11) := ⟨⟨by decide +kernel, by decide +kernel⟩, List.mem_of_getElem? (i := 24) (by decide +kernel), List.mem_of_getElem? (i := 383) (by decide +kernel), List.mem_of_getElem? (i := 384) (by decide +kernel)⟩
theorem lw_p7 : lw_okq (⟨"JournalHouse$Journal", "reserve", "()I"⟩, 11) := ⟨⟨by decide +kernel, by decide +kernel⟩, List.mem_of_getElem? (i := 24) (by decide +kernel), List.mem_of_getElem? (i := 390) (by decide +kernel), List.mem_of_getElem? (i := 391) (by decide +kernel)⟩
theorem lw_p8 : lw_okq (⟨"JournalHouse", "writeChange", "(III)V"⟩, 12) := ⟨⟨by decide +kernel, by decide +kernel⟩, List.mem_of_getElem? (i := 16) (by decide +kernel), List.mem_of_getElem? (i := 394) (by decide +kernel), List.mem_of_getElem? (i := 395) (by decide +kernel)⟩
theorem lw_p9 : lw_okq (⟨"JournalHouse$Journal", "noteOpenFiles", "()V"⟩, 11) := ⟨⟨by decide +kernel, by decide +kernel⟩, List.mem_of_getElem? (i := 24) (by decide +kernel), List.mem_of_getElem? (i := 403) (by decide +kernel), List.mem_of_getElem? (i := 404) (by decide +kernel)⟩
theorem lw_p10 : lw_okq (⟨"JournalHouse", "rollBack", "(I)V"⟩, 12) := ⟨⟨by decide +kernel, by decide +kernel⟩, List.mem_of_getElem? (i := 16) (by decide +kernel), List.mem_of_getElem? (i := 430) (by decide +kernel), List.mem_of_getElem? (i := 431) (by decide +kernel)⟩
theorem lw_p11 : lw_okq (⟨"JournalHouse", "isSlot", "(I)Z"⟩, 12) := ⟨⟨by decide +kernel, by decide +kernel⟩, List.mem_of_getElem? (i := 16) (by decide +kernel), List.mem_of_getElem? (i := 441) (by decide +kernel), List.mem_of_getElem? (i := 442) (by decide +kernel)⟩
theorem lw_p12 : lw_okq (⟨"JournalHouse", "bringToWanted", "(II)I"⟩, 12) := ⟨⟨by decide +kernel, by decide +kernel⟩, List.mem_of_getElem? (i := 16) (by decide +kernel), List.mem_of_getElem? (i := 464) (by decide +kernel), List.mem_of_getElem? (i := 465) (by decide +kernel)⟩
theorem lw_p13 : lw_okq (⟨"JournalHouse", "countUnwanted", "(I)I"⟩, 12) := ⟨⟨by decide +kernel, by decide +kernel⟩, List.mem_of_getElem? (i := 16) (by decide +kernel), List.mem_of_getElem? (i := 468) (by decide +kernel), List.mem_of_getElem? (i := 469) (by decide +kernel)⟩
theorem lw_p14 : lw_okq (⟨"JournalHouse", "canApply", "(II)Z"⟩, 12) := ⟨⟨by decide +kernel, by decide +kernel⟩, List.mem_of_getElem? (i := 16) (by decide +kernel), List.mem_of_getElem? (i := 483) (by decide +kernel), List.mem_of_getElem? (i := 484) (by decide +kernel)⟩
theorem lw_p15 : lw_okq (⟨"JournalHouse", "wantWhatIs", "(I)V"⟩, 12) := ⟨⟨by decide +kernel, by decide +kernel⟩, List.mem_of_getElem? (i := 16) (by decide +kernel), List.mem_of_getElem? (i := 496) (by decide +kernel), List.mem_of_getElem? (i := 497) (by decide +kernel)⟩
def lw_privs_1 : List (MethodName × Nat) := [(⟨"JournalHouse", "isRecord", "(II)Z"⟩, 12), (⟨"JournalHouse", "isFile", "(I)Z"⟩, 12), (⟨"JournalHouse", "partOfChange", "(II)J"⟩, 12), (⟨"java/lang/Throwable", "fillInStackTrace", "(I)Ljava/lang/Throwable;"⟩, 6), (⟨"JournalHouse", "isJob", "(I)Z"⟩, 12), (⟨"JournalHouse$Journal", "isInOpenCycle", "(I)Z"⟩, 11), (⟨"JournalHouse$Journal", "room", "()I"⟩, 11), (⟨"JournalHouse$Journal", "reserve", "()I"⟩, 11), (⟨"JournalHouse", "writeChange", "(III)V"⟩, 12), (⟨"JournalHouse$Journal", "noteOpenFiles", "()V"⟩, 11), (⟨"JournalHouse", "rollBack", "(I)V"⟩, 12), (⟨"JournalHouse", "isSlot", "(I)Z"⟩, 12), (⟨"JournalHouse", "bringToWanted", "(II)I"⟩, 12), (⟨"JournalHouse", "countUnwanted", "(I)I"⟩, 12), (⟨"JournalHouse", "canApply", "(II)Z"⟩, 12), (⟨"JournalHouse", "wantWhatIs", "(I)V"⟩, 12)]
theorem lw_r1 : ∀ q ∈ lw_privs_1, lw_okq q := List.forall_mem_cons.mpr ⟨lw_p0, List.forall_mem_cons.mpr ⟨lw_p1, List.forall_mem_cons.mpr ⟨lw_p2, List.forall_mem_cons.mpr ⟨lw_p3, List.forall_mem_cons.mpr ⟨lw_p4, List.forall_mem_cons.mpr ⟨lw_p5, List.forall_mem_cons.mpr ⟨lw_p6, List.forall_mem_cons.mpr ⟨lw_p7, List.forall_mem_cons.mpr ⟨lw_p8, List.forall_mem_cons.mpr ⟨lw_p9, List.forall_mem_cons.mpr ⟨lw_p10, List.forall_mem_cons.mpr ⟨lw_p11, List.forall_mem_cons.mpr ⟨lw_p12, List.forall_mem_cons.mpr ⟨lw_p13, List.forall_mem_cons.mpr ⟨lw_p14, List.forall_mem_cons.mpr ⟨lw_p15, fun _ h => absurd h List.not_mem_nil⟩⟩⟩⟩⟩⟩⟩⟩⟩⟩⟩⟩⟩⟩⟩⟩
theorem lw_p16 : lw_okq (⟨"JournalHouse", "canRemove", "(II)Z"⟩, 12) := ⟨⟨by decide +kernel, by decide +kernel⟩, List.mem_of_getElem? (i := 16) (by decide +kernel), List.mem_of_getElem? (i := 508) (by decide +kernel), List.mem_of_getElem? (i := 509) (by decide +kernel)⟩
theorem lw_p17 : lw_okq (⟨"JournalHouse", "numberToRemoveFrom", "(I)I"⟩, 12) := ⟨⟨by decide +kernel, by decide +kernel⟩, List.mem_of_getElem? (i := 16) (by decide +kernel), List.mem_of_getElem? (i := 512) (by decide +kernel), List.mem_of_getElem? (i := 513) (by decide +kernel)⟩
theorem lw_p18 : lw_okq (⟨"JournalHouseModel", "isRecord", "(II)Z"⟩, 25) := ⟨⟨by decide +kernel, by decide +kernel⟩, List.mem_of_getElem? (i := 591) (by decide +kernel), List.mem_of_getElem? (i := 688) (by decide +kernel), List.mem_of_getElem? (i := 689) (by decide +kernel)⟩
theorem lw_p19 : lw_okq (⟨"JournalHouseModel", "isFile", "(I)Z"⟩, 25) := ⟨⟨by decide +kernel, by decide +kernel⟩, List.mem_of_getElem? (i := 591) (by decide +kernel), List.mem_of_getElem? (i := 692) (by decide +kernel), List.mem_of_getElem? (i := 693) (by decide +kernel)⟩
theorem lw_p20 : lw_okq (⟨"JournalHouseModel", "reserve", "()I"⟩, 25) := ⟨⟨by decide +kernel, by decide +kernel⟩, List.mem_of_getElem? (i := 591) (by decide +kernel), List.mem_of_getElem? (i := 696) (by decide +kernel), List.mem_of_getElem? (i := 697) (by decide +kernel)⟩
theorem lw_p21 : lw_okq (⟨"JournalHouseModel", "changesOf", "(I)I"⟩, 25) := ⟨⟨by decide +kernel, by decide +kernel⟩, List.mem_of_getElem? (i := 591) (by decide +kernel), List.mem_of_getElem? (i := 700) (by decide +kernel), List.mem_of_getElem? (i := 701) (by decide +kernel)⟩
theorem lw_p22 : lw_okq (⟨"JournalHouseModel", "cycleAt", "(II)I"⟩, 25) := ⟨⟨by decide +kernel, by decide +kernel⟩, List.mem_of_getElem? (i := 591) (by decide +kernel), List.mem_of_getElem? (i := 704) (by decide +kernel), List.mem_of_getElem? (i := 705) (by decide +kernel)⟩
theorem lw_p23 : lw_okq (⟨"JournalHouseModel", "isLocked", "(III)Z"⟩, 25) := ⟨⟨by decide +kernel, by decide +kernel⟩, List.mem_of_getElem? (i := 591) (by decide +kernel), List.mem_of_getElem? (i := 708) (by decide +kernel), List.mem_of_getElem? (i := 709) (by decide +kernel)⟩
theorem lw_p24 : lw_okq (⟨"JournalHouseModel", "room", "()I"⟩, 25) := ⟨⟨by decide +kernel, by decide +kernel⟩, List.mem_of_getElem? (i := 591) (by decide +kernel), List.mem_of_getElem? (i := 712) (by decide +kernel), List.mem_of_getElem? (i := 713) (by decide +kernel)⟩
theorem lw_p25 : lw_okq (⟨"JournalHouseModel", "refuse", "(I)I"⟩, 25) := ⟨⟨by decide +kernel, by decide +kernel⟩, List.mem_of_getElem? (i := 591) (by decide +kernel), List.mem_of_getElem? (i := 716) (by decide +kernel), List.mem_of_getElem? (i := 717) (by decide +kernel)⟩
theorem lw_p26 : lw_okq (⟨"JournalHouseModel", "put", "(IIII)V"⟩, 25) := ⟨⟨by decide +kernel, by decide +kernel⟩, List.mem_of_getElem? (i := 591) (by decide +kernel), List.mem_of_getElem? (i := 720) (by decide +kernel), List.mem_of_getElem? (i := 721) (by decide +kernel)⟩
theorem lw_p27 : lw_okq (⟨"JournalHouseModel", "note", "(IIIII)V"⟩, 25) := ⟨⟨by decide +kernel, by decide +kernel⟩, List.mem_of_getElem? (i := 591) (by decide +kernel), List.mem_of_getElem? (i := 724) (by decide +kernel), List.mem_of_getElem? (i := 725) (by decide +kernel)⟩
theorem lw_p28 : lw_okq (⟨"JournalHouseModel", "valueAt", "(III)I"⟩, 25) := ⟨⟨by decide +kernel, by decide +kernel⟩, List.mem_of_getElem? (i := 591) (by decide +kernel), List.mem_of_getElem? (i := 728) (by decide +kernel), List.mem_of_getElem? (i := 729) (by decide +kernel)⟩
theorem lw_p29 : lw_okq (⟨"JournalHouseModel", "landFirst", "()V"⟩, 25) := ⟨⟨by decide +kernel, by decide +kernel⟩, List.mem_of_getElem? (i := 591) (by decide +kernel), List.mem_of_getElem? (i := 732) (by decide +kernel), List.mem_of_getElem? (i := 733) (by decide +kernel)⟩
theorem lw_p30 : lw_okq (⟨"JournalHouseModel", "undo", "(I)V"⟩, 25) := ⟨⟨by decide +kernel, by decide +kernel⟩, List.mem_of_getElem? (i := 591) (by decide +kernel), List.mem_of_getElem? (i := 749) (by decide +kernel), List.mem_of_getElem? (i := 750) (by decide +kernel)⟩
theorem lw_p31 : lw_okq (⟨"JournalHouseModel", "isOn", "(II)Z"⟩, 25) := ⟨⟨by decide +kernel, by decide +kernel⟩, List.mem_of_getElem? (i := 591) (by decide +kernel), List.mem_of_getElem? (i := 757) (by decide +kernel), List.mem_of_getElem? (i := 758) (by decide +kernel)⟩
def lw_privs_2 : List (MethodName × Nat) := [(⟨"JournalHouse", "canRemove", "(II)Z"⟩, 12), (⟨"JournalHouse", "numberToRemoveFrom", "(I)I"⟩, 12), (⟨"JournalHouseModel", "isRecord", "(II)Z"⟩, 25), (⟨"JournalHouseModel", "isFile", "(I)Z"⟩, 25), (⟨"JournalHouseModel", "reserve", "()I"⟩, 25), (⟨"JournalHouseModel", "changesOf", "(I)I"⟩, 25), (⟨"JournalHouseModel", "cycleAt", "(II)I"⟩, 25), (⟨"JournalHouseModel", "isLocked", "(III)Z"⟩, 25), (⟨"JournalHouseModel", "room", "()I"⟩, 25), (⟨"JournalHouseModel", "refuse", "(I)I"⟩, 25), (⟨"JournalHouseModel", "put", "(IIII)V"⟩, 25), (⟨"JournalHouseModel", "note", "(IIIII)V"⟩, 25), (⟨"JournalHouseModel", "valueAt", "(III)I"⟩, 25), (⟨"JournalHouseModel", "landFirst", "()V"⟩, 25), (⟨"JournalHouseModel", "undo", "(I)V"⟩, 25), (⟨"JournalHouseModel", "isOn", "(II)Z"⟩, 25)]
theorem lw_r2 : ∀ q ∈ lw_privs_2, lw_okq q := List.forall_mem_cons.mpr ⟨lw_p16, List.forall_mem_cons.mpr ⟨lw_p17, List.forall_mem_cons.mpr ⟨lw_p18, List.forall_mem_cons.mpr ⟨lw_p19, List.forall_mem_cons.mpr ⟨lw_p20, List.forall_mem_cons.mpr ⟨lw_p21, List.forall_mem_cons.mpr ⟨lw_p22, List.forall_mem_cons.mpr ⟨lw_p23, List.forall_mem_cons.mpr ⟨lw_p24, List.forall_mem_cons.mpr ⟨lw_p25, List.forall_mem_cons.mpr ⟨lw_p26, List.forall_mem_cons.mpr ⟨lw_p27, List.forall_mem_cons.mpr ⟨lw_p28, List.forall_mem_cons.mpr ⟨lw_p29, List.forall_mem_cons.mpr ⟨lw_p30, List.forall_mem_cons.mpr ⟨lw_p31, fun _ h => absurd h List.not_mem_nil⟩⟩⟩⟩⟩⟩⟩⟩⟩⟩⟩⟩⟩⟩⟩⟩
theorem lw_p32 : lw_okq (⟨"JournalHouseModel", "become", "(III)I"⟩, 25) := ⟨⟨by decide +kernel, by decide +kernel⟩, List.mem_of_getElem? (i := 591) (by decide +kernel), List.mem_of_getElem? (i := 765) (by decide +kernel), List.mem_of_getElem? (i := 766) (by decide +kernel)⟩
theorem lw_p33 : lw_okq (⟨"JournalHouseModel", "lacks", "(III)Z"⟩, 25) := ⟨⟨by decide +kernel, by decide +kernel⟩, List.mem_of_getElem? (i := 591) (by decide +kernel), List.mem_of_getElem? (i := 773) (by decide +kernel), List.mem_of_getElem? (i := 774) (by decide +kernel)⟩
theorem lw_p34 : lw_okq (⟨"JournalHouseModel", "isKept", "(I)Z"⟩, 25) := ⟨⟨by decide +kernel, by decide +kernel⟩, List.mem_of_getElem? (i := 591) (by decide +kernel), List.mem_of_getElem? (i := 797) (by decide +kernel), List.mem_of_getElem? (i := 798) (by decide +kernel)⟩
theorem lw_p35 : lw_okq (⟨"JournalHouseModel", "takenBack", "(II)I"⟩, 25) := ⟨⟨by decide +kernel, by decide +kernel⟩, List.mem_of_getElem? (i := 591) (by decide +kernel), List.mem_of_getElem? (i := 829) (by decide +kernel), List.mem_of_getElem? (i := 830) (by decide +kernel)⟩
def lw_privs_3 : List (MethodName × Nat) := [(⟨"JournalHouseModel", "become", "(III)I"⟩, 25), (⟨"JournalHouseModel", "lacks", "(III)Z"⟩, 25), (⟨"JournalHouseModel", "isKept", "(I)Z"⟩, 25), (⟨"JournalHouseModel", "takenBack", "(II)I"⟩, 25)]
theorem lw_r3 : ∀ q ∈ lw_privs_3, lw_okq q := List.forall_mem_cons.mpr ⟨lw_p32, List.forall_mem_cons.mpr ⟨lw_p33, List.forall_mem_cons.mpr ⟨lw_p34, List.forall_mem_cons.mpr ⟨lw_p35, fun _ h => absurd h List.not_mem_nil⟩⟩⟩⟩
def lw_privs : List (MethodName × Nat) := lw_privs_1 ++ (lw_privs_2 ++ (lw_privs_3))
def lw_tbl : List Cond := k2_sels lw_privs ++ tables_1
theorem lw_privs_ok : ∀ q ∈ lw_privs, lw_okq q := by
  show ∀ q ∈ lw_privs_1 ++ (lw_privs_2 ++ (lw_privs_3)), lw_okq q
  exact List.forall_mem_append.mpr ⟨lw_r1, List.forall_mem_append.mpr ⟨lw_r2, lw_r3⟩⟩
end
section
def RH : String := "JournalHouse"
def TH : u_T := fun k => match k with
  | 0 => ("JournalHouse", "journal", "LJournalHouse$Journal;", true)
  | 1 => ("JournalHouse", "store", "LJournalHouse$Store;", true)
  | 2 => ("JournalHouse", "copies", "LJournalHouse$Copies;", true)
  | 3 => ("JournalHouse", "letters", "LJournalHouse$Letters;", true)
  | 4 => ("JournalHouse", "remoteHouse", "LJournalHouse$RemoteHouse;", true)
  | 5 => ("JournalHouse", "sizes", "[I", true)
  | 6 => ("JournalHouse", "numbers", "[I", true)
  | 7 => ("JournalHouse", "limits", "[I", true)
  | 8 => ("JournalHouse", "wanted", "[I", true)
  | 9 => ("JournalHouse", "fileCount", "I", false)
  | 10 => ("JournalHouse", "acknowledged", "I", false)
  | _ => ("JournalHouse", "up", "Z", false)
def tyH : Nat → FieldType := fun k => match k with
  | 0 => .object "JournalHouse$Journal"
  | 1 => .object "JournalHouse$Store"
  | 2 => .object "JournalHouse$Copies"
  | 3 => .object "JournalHouse$Letters"
  | 4 => .object "JournalHouse$RemoteHouse"
  | 5 => .array .int
  | 6 => .array .int
  | 7 => .array .int
  | 8 => .array .int
  | 9 => .int
  | 10 => .int
  | _ => .boolean
theorem nmH : ∀ a, a < 12 → ∀ b, b < 12 → a ≠ b → (TH a).2.1 ≠ (TH b).2.1 := by decide +kernel
theorem tyH_ok : ∀ k, k < 12 → parseFieldDescriptor (TH k).2.2.1 = some (tyH k) := by decide +kernel
def RJ : String := "JournalHouse$Journal"
def TJ : u_T := fun k => match k with
  | 0 => ("JournalHouse$Journal", "kinds", "[I", true)
  | 1 => ("JournalHouse$Journal", "jobs", "[I", true)
  | 2 => ("JournalHouse$Journal", "cells", "[I", true)
  | 3 => ("JournalHouse$Journal", "befores", "[I", true)
  | 4 => ("JournalHouse$Journal", "afters", "[I", true)
  | 5 => ("JournalHouse$Journal", "openFiles", "[I", true)
  | 6 => ("JournalHouse$Journal", "began", "[I", true)
  | 7 => ("JournalHouse$Journal", "changeCounts", "[I", true)
  | 8 => ("JournalHouse$Journal", "cycleFiles", "[I", true)
  | 9 => ("JournalHouse$Journal", "newest", "I", false)
  | _ => ("JournalHouse$Journal", "dropped", "I", false)
def tyJ : Nat → FieldType := fun k => match k with
  | 0 => .array .int
  | 1 => .array .int
  | 2 => .array .int
  | 3 => .array .int
  | 4 => .array .int
  | 5 => .array .int
  | 6 => .array .int
  | 7 => .array .int
  | 8 => .array .int
  | 9 => .int
  | _ => .int
theorem nmJ : ∀ a, a < 11 → ∀ b, b < 11 → a ≠ b → (TJ a).2.1 ≠ (TJ b).2.1 := by decide +kernel
theorem tyJ_ok : ∀ k, k < 11 → parseFieldDescriptor (TJ k).2.2.1 = some (tyJ k) := by decide +kernel
def RS : String := "JournalHouse$Store"
def TS : u_T := fun k => match k with
  | 0 => ("JournalHouse$Store", "records", "[I", true)
  | 1 => ("JournalHouse$Store", "onDisk", "[I", true)
  | 2 => ("JournalHouse$Store", "waitingCells", "[I", true)
  | 3 => ("JournalHouse$Store", "waitingValues", "[I", true)
  | _ => ("JournalHouse$Store", "waitingCount", "I", false)
def tyS : Nat → FieldType := fun k => match k with
  | 0 => .array .int
  | 1 => .array .int
  | 2 => .array .int
  | 3 => .array .int
  | _ => .int
theorem nmS : ∀ a, a < 5 → ∀ b, b < 5 → a ≠ b → (TS a).2.1 ≠ (TS b).2.1 := by decide +kernel
theorem tyS_ok : ∀ k, k < 5 → parseFieldDescriptor (TS k).2.2.1 = some (tyS k) := by decide +kernel
def RC : String := "JournalHouse$Copies"
def TC : u_T := fun k => match k with
  | 0 => ("JournalHouse$Copies", "filled", "[Z", true)
  | 1 => ("JournalHouse$Copies", "files", "[I", true)
  | 2 => ("JournalHouse$Copies", "numbers", "[I", true)
  | _ => ("JournalHouse$Copies", "records", "[I", true)
def tyC : Nat → FieldType := fun k => match k with
  | 0 => .array .boolean
  | 1 => .array .int
  | 2 => .array .int
  | _ => .array .int
theorem nmC : ∀ a, a < 4 → ∀ b, b < 4 → a ≠ b → (TC a).2.1 ≠ (TC b).2.1 := by decide +kernel
theorem tyC_ok : ∀ k, k < 4 → parseFieldDescriptor (TC k).2.2.1 = some (tyC k) := by decide +kernel
def RL : String := "JournalHouse$Letters"
def TL : u_T := fun k => match k with
  | 0 => ("JournalHouse$Letters", "entries", "[I", true)
  | _ => ("JournalHouse$Letters", "count", "I", false)
def tyL : Nat → FieldType := fun k => match k with
  | 0 => .array .int
  | _ => .int
theorem nmL : ∀ a, a < 2 → ∀ b, b < 2 → a ≠ b → (TL a).2.1 ≠ (TL b).2.1 := by decide +kernel
theorem tyL_ok : ∀ k, k < 2 → parseFieldDescriptor (TL k).2.2.1 = some (tyL k) := by decide +kernel
def RR : String := "JournalHouse$RemoteHouse"
def TR : u_T := fun k => match k with
  | 0 => ("JournalHouse$RemoteHouse", "records", "[I", true)
  | 1 => ("JournalHouse$RemoteHouse", "received", "[Z", true)
  | 2 => ("JournalHouse$RemoteHouse", "applied", "I", false)
  | _ => ("JournalHouse$RemoteHouse", "takenOver", "Z", false)
def tyR : Nat → FieldType := fun k => match k with
  | 0 => .array .int
  | 1 => .array .boolean
  | 2 => .int
  | _ => .boolean
theorem nmR : ∀ a, a < 4 → ∀ b, b < 4 → a ≠ b → (TR a).2.1 ≠ (TR b).2.1 := by decide +kernel
theorem tyR_ok : ∀ k, k < 4 → parseFieldDescriptor (TR k).2.2.1 = some (tyR k) := by decide +kernel
def RM : String := "JournalHouseModel"
def TM : u_T := fun k => match k with
  | 0 => ("JournalHouseModel", "thrown", "I", false)
  | 1 => ("JournalHouseModel", "files", "I", false)
  | 2 => ("JournalHouseModel", "size", "[I", true)
  | 3 => ("JournalHouseModel", "shows", "[I", true)
  | 4 => ("JournalHouseModel", "limit", "[I", true)
  | 5 => ("JournalHouseModel", "last", "I", false)
  | 6 => ("JournalHouseModel", "dropped", "I", false)
  | 7 => ("JournalHouseModel", "known", "I", false)
  | 8 => ("JournalHouseModel", "down", "Z", false)
  | 9 => ("JournalHouseModel", "kind", "[I", true)
  | 10 => ("JournalHouseModel", "job", "[I", true)
  | 11 => ("JournalHouseModel", "file", "[I", true)
  | 12 => ("JournalHouseModel", "spot", "[I", true)
  | 13 => ("JournalHouseModel", "before", "[I", true)
  | 14 => ("JournalHouseModel", "after", "[I", true)
  | 15 => ("JournalHouseModel", "landed", "[I", true)
  | 16 => ("JournalHouseModel", "waits", "I", false)
  | 17 => ("JournalHouseModel", "waiting", "[I", true)
  | 18 => ("JournalHouseModel", "copyFile", "[I", true)
  | 19 => ("JournalHouseModel", "copyNumber", "[I", true)
  | 20 => ("JournalHouseModel", "letters", "I", false)
  | 21 => ("JournalHouseModel", "link", "[I", true)
  | 22 => ("JournalHouseModel", "came", "[Z", true)
  | 23 => ("JournalHouseModel", "applied", "I", false)
  | _ => ("JournalHouseModel", "taken", "Z", false)
def tyM : Nat → FieldType := fun k => match k with
  | 0 => .int
  | 1 => .int
  | 2 => .array .int
  | 3 => .array .int
  | 4 => .array .int
  | 5 => .int
  | 6 => .int
  | 7 => .int
  | 8 => .boolean
  | 9 => .array .int
  | 10 => .array .int
  | 11 => .array .int
  | 12 => .array .int
  | 13 => .array .int
  | 14 => .array .int
  | 15 => .array .int
  | 16 => .int
  | 17 => .array .int
  | 18 => .array .int
  | 19 => .array .int
  | 20 => .int
  | 21 => .array .int
  | 22 => .array .boolean
  | 23 => .int
  | _ => .boolean
theorem nmM : ∀ a, a < 25 → ∀ b, b < 25 → a ≠ b → (TM a).2.1 ≠ (TM b).2.1 := by decide +kernel
theorem tyM_ok : ∀ k, k < 25 → parseFieldDescriptor (TM k).2.2.1 = some (tyM k) := by decide +kernel
def RZ : String := "JournalHouseLaw"
abbrev vwCl : List vw_C := [(RH, TH, 12), (RJ, TJ, 11), (RS, TS, 5), (RC, TC, 4), (RL, TL, 2), (RR, TR, 4), (RM, TM, 25)]
/-- the tables' good words: every method's words are its own code and these -/
def jall : List Cond := lw_tbl.filter goodWord
theorem jall_t {w : Cond} (i : Nat) (h : tables_1[i]? = some w) (g : goodWord w = true) : w ∈ jall := List.mem_filter.mpr ⟨List.mem_append_right _ (List.mem_of_getElem? h), g⟩
theorem jall_s {w : Cond} (h : w ∈ k2_sels lw_privs) (g : goodWord w = true) : w ∈ jall := List.mem_filter.mpr ⟨List.mem_append_left _ h, g⟩
theorem jall_g {w : Cond} (h : w ∈ jall) : w ∈ jall ∧ ((w.onTables && w.keeps) = true ∨ ∃ ty, w = .arrayClass ty) := ⟨h, good_of_word (List.mem_filter.mp h).2⟩
theorem jall_G {ws : List Cond} (h : ∀ w ∈ ws, w ∈ jall) : GoodIn jall ws := fun w hw => jall_g (h w hw)
set_option maxRecDepth 20000 in
theorem inH : ∀ w ∈ u_ws RH TH 12, w ∈ jall := by decide +kernel
set_option maxRecDepth 20000 in
theorem inJ : ∀ w ∈ u_ws RJ TJ 11, w ∈ jall := by decide +kernel
set_option maxRecDepth 20000 in
theorem inS : ∀ w ∈ u_ws RS TS 5, w ∈ jall := by decide +kernel
set_option maxRecDepth 20000 in
theorem inC : ∀ w ∈ u_ws RC TC 4, w ∈ jall := by decide +kernel
set_option maxRecDepth 20000 in
theorem inL : ∀ w ∈ u_ws RL TL 2, w ∈ jall := by decide +kernel
set_option maxRecDepth 20000 in
theorem inR : ∀ w ∈ u_ws RR TR 4, w ∈ jall := by decide +kernel
set_option maxRecDepth 20000 in
theorem inM : ∀ w ∈ u_ws RM TM 25, w ∈ jall := by decide +kernel
abbrev cH_init : ByteArray := prog_1_method_1_code
def yH_init : MethodName := ⟨RH, "<init>", "()V"⟩
def wsH_init : List Cond := .code yH_init cH_init 1 (none) :: jall
abbrev cH_file : ByteArray := prog_1_method_2_code
def yH_file : MethodName := ⟨RH, "file", "(I)I"⟩
def wsH_file : List Cond := .code yH_file cH_file 3 (some .int) :: jall
abbrev cH_change : ByteArray := prog_1_method_3_code
def yH_change : MethodName := ⟨RH, "change", "(IIII)I"⟩
def wsH_change : List Cond := .code yH_change cH_change 6 (some .int) :: jall
abbrev cH_get : ByteArray := prog_1_method_4_code
def yH_get : MethodName := ⟨RH, "get", "(II)J"⟩
def wsH_get : List Cond := .code yH_get cH_get 3 (some .long) :: jall
abbrev cH_disk : ByteArray := prog_1_method_5_code
def yH_disk : MethodName := ⟨RH, "disk", "(II)J"⟩
def wsH_disk : List Cond := .code yH_disk cH_disk 3 (some .long) :: jall
abbrev cH_end : ByteArray := prog_1_method_6_code
def yH_end : MethodName := ⟨RH, "end", "(IZ)I"⟩
def wsH_end : List Cond := .code yH_end cH_end 3 (some .int) :: jall
abbrev cH_save : ByteArray := prog_1_method_7_code
def yH_save : MethodName := ⟨RH, "save", "(II)I"⟩
def wsH_save : List Cond := .code yH_save cH_save 3 (some .int) :: jall
abbrev cH_restore : ByteArray := prog_1_method_8_code
def yH_restore : MethodName := ⟨RH, "restore", "(I)I"⟩
def wsH_restore : List Cond := .code yH_restore cH_restore 5 (some .int) :: jall
abbrev cH_apply : ByteArray := prog_1_method_9_code
def yH_apply : MethodName := ⟨RH, "apply", "(II)I"⟩
def wsH_apply : List Cond := .code yH_apply cH_apply 4 (some .int) :: jall
abbrev cH_remove : ByteArray := prog_1_method_10_code
def yH_remove : MethodName := ⟨RH, "remove", "(II)I"⟩
def wsH_remove : List Cond := .code yH_remove cH_remove 6 (some .int) :: jall
abbrev cH_number : ByteArray := prog_1_method_11_code
def yH_number : MethodName := ⟨RH, "number", "(I)I"⟩
def wsH_number : List Cond := .code yH_number cH_number 2 (some .int) :: jall
abbrev cH_last : ByteArray := prog_1_method_12_code
def yH_last : MethodName := ⟨RH, "last", "()I"⟩
def wsH_last : List Cond := .code yH_last cH_last 1 (some .int) :: jall
abbrev cH_boundary : ByteArray := prog_1_method_13_code
def yH_boundary : MethodName := ⟨RH, "boundary", "(II)Z"⟩
def wsH_boundary : List Cond := .code yH_boundary cH_boundary 3 (some .boolean) :: jall
abbrev cH_entry : ByteArray := prog_1_method_14_code
def yH_entry : MethodName := ⟨RH, "entry", "(II)J"⟩
def wsH_entry : List Cond := .code yH_entry cH_entry 3 (some .long) :: jall
abbrev cH_drop : ByteArray := prog_1_method_15_code
def yH_drop : MethodName := ⟨RH, "drop", "()I"⟩
def wsH_drop : List Cond := .code yH_drop cH_drop 1 (some .int) :: jall
abbrev cH_cut : ByteArray := prog_1_method_16_code
def yH_cut : MethodName := ⟨RH, "cut", "(I)I"⟩
def wsH_cut : List Cond := .code yH_cut cH_cut 2 (some .int) :: jall
abbrev cH_start : ByteArray := prog_1_method_17_code
def yH_start : MethodName := ⟨RH, "start", "()I"⟩
def wsH_start : List Cond := .code yH_start cH_start 2 (some .int) :: jall
abbrev cH_link : ByteArray := prog_1_method_18_code
def yH_link : MethodName := ⟨RH, "link", "(II)I"⟩
def wsH_link : List Cond := .code yH_link cH_link 4 (some .int) :: jall
abbrev cH_ack : ByteArray := prog_1_method_19_code
def yH_ack : MethodName := ⟨RH, "ack", "()I"⟩
def wsH_ack : List Cond := .code yH_ack cH_ack 1 (some .int) :: jall
abbrev cH_takeOver : ByteArray := prog_1_method_20_code
def yH_takeOver : MethodName := ⟨RH, "takeOver", "()I"⟩
def wsH_takeOver : List Cond := .code yH_takeOver cH_takeOver 1 (some .int) :: jall
abbrev cH_remote : ByteArray := prog_1_method_21_code
def yH_remote : MethodName := ⟨RH, "remote", "(II)J"⟩
def wsH_remote : List Cond := .code yH_remote cH_remote 3 (some .long) :: jall
abbrev cH_isJob : ByteArray := prog_1_method_22_code
def yH_isJob : MethodName := ⟨RH, "isJob", "(I)Z"⟩
def wsH_isJob : List Cond := .code yH_isJob cH_isJob 2 (some .boolean) :: jall
abbrev cH_isFile : ByteArray := prog_1_method_23_code
def yH_isFile : MethodName := ⟨RH, "isFile", "(I)Z"⟩
def wsH_isFile : List Cond := .code yH_isFile cH_isFile 2 (some .boolean) :: jall
abbrev cH_isRecord : ByteArray := prog_1_method_24_code
def yH_isRecord : MethodName := ⟨RH, "isRecord", "(II)Z"⟩
def wsH_isRecord : List Cond := .code yH_isRecord cH_isRecord 3 (some .boolean) :: jall
abbrev cH_isSlot : ByteArray := prog_1_method_25_code
def yH_isSlot : MethodName := ⟨RH, "isSlot", "(I)Z"⟩
def wsH_isSlot : List Cond := .code yH_isSlot cH_isSlot 2 (some .boolean) :: jall
abbrev cH_cellOf : ByteArray := prog_1_method_26_code
def yH_cellOf : MethodName := ⟨RH, "cellOf", "(II)I"⟩
def wsH_cellOf : List Cond := .code yH_cellOf cH_cellOf 2 (some .int) :: jall
abbrev cH_fileOf : ByteArray := prog_1_method_27_code
def yH_fileOf : MethodName := ⟨RH, "fileOf", "(I)I"⟩
def wsH_fileOf : List Cond := .code yH_fileOf cH_fileOf 1 (some .int) :: jall
abbrev cH_recordOf : ByteArray := prog_1_method_28_code
def yH_recordOf : MethodName := ⟨RH, "recordOf", "(I)I"⟩
def wsH_recordOf : List Cond := .code yH_recordOf cH_recordOf 1 (some .int) :: jall
abbrev cH_partOfChange : ByteArray := prog_1_method_29_code
def yH_partOfChange : MethodName := ⟨RH, "partOfChange", "(II)J"⟩
def wsH_partOfChange : List Cond := .code yH_partOfChange cH_partOfChange 3 (some .long) :: jall
abbrev cH_writeChange : ByteArray := prog_1_method_30_code
def yH_writeChange : MethodName := ⟨RH, "writeChange", "(III)V"⟩
def wsH_writeChange : List Cond := .code yH_writeChange cH_writeChange 4 (none) :: jall
abbrev cH_rollBack : ByteArray := prog_1_method_31_code
def yH_rollBack : MethodName := ⟨RH, "rollBack", "(I)V"⟩
def wsH_rollBack : List Cond := .code yH_rollBack cH_rollBack 4 (none) :: jall
abbrev cH_canApply : ByteArray := prog_1_method_32_code
def yH_canApply : MethodName := ⟨RH, "canApply", "(II)Z"⟩
def wsH_canApply : List Cond := .code yH_canApply cH_canApply 4 (some .boolean) :: jall
abbrev cH_canRemove : ByteArray := prog_1_method_33_code
def yH_canRemove : MethodName := ⟨RH, "canRemove", "(II)Z"⟩
def wsH_canRemove : List Cond := .code yH_canRemove cH_canRemove 4 (some .boolean) :: jall
abbrev cH_numberToRemoveFrom : ByteArray := prog_1_method_34_code
def yH_numberToRemoveFrom : MethodName := ⟨RH, "numberToRemoveFrom", "(I)I"⟩
def wsH_numberToRemoveFrom : List Cond := .code yH_numberToRemoveFrom cH_numberToRemoveFrom 2 (some .int) :: jall
abbrev cH_wantWhatIs : ByteArray := prog_1_method_35_code
def yH_wantWhatIs : MethodName := ⟨RH, "wantWhatIs", "(I)V"⟩
def wsH_wantWhatIs : List Cond := .code yH_wantWhatIs cH_wantWhatIs 2 (none) :: jall
abbrev cH_bringToWanted : ByteArray := prog_1_method_36_code
def yH_bringToWanted : MethodName := ⟨RH, "bringToWanted", "(II)I"⟩
def wsH_bringToWanted : List Cond := .code yH_bringToWanted cH_bringToWanted 6 (some .int) :: jall
abbrev cH_countUnwanted : ByteArray := prog_1_method_37_code
def yH_countUnwanted : MethodName := ⟨RH, "countUnwanted", "(I)I"⟩
def wsH_countUnwanted : List Cond := .code yH_countUnwanted cH_countUnwanted 4 (some .int) :: jall
abbrev cM_init : ByteArray := prog_8_method_1_code
def yM_init : MethodName := ⟨RM, "<init>", "()V"⟩
def wsM_init : List Cond := .code yM_init cM_init 2 (none) :: jall
abbrev cM_thrown : ByteArray := prog_8_method_2_code
def yM_thrown : MethodName := ⟨RM, "thrown", "()I"⟩
def wsM_thrown : List Cond := .code yM_thrown cM_thrown 1 (some .int) :: jall
abbrev cM_refuse : ByteArray := prog_8_method_3_code
def yM_refuse : MethodName := ⟨RM, "refuse", "(I)I"⟩
def wsM_refuse : List Cond := .code yM_refuse cM_refuse 2 (some .int) :: jall
abbrev cM_within : ByteArray := prog_8_method_4_code
def yM_within : MethodName := ⟨RM, "within", "(III)Z"⟩
def wsM_within : List Cond := .code yM_within cM_within 3 (some .boolean) :: jall
abbrev cM_isFile : ByteArray := prog_8_method_5_code
def yM_isFile : MethodName := ⟨RM, "isFile", "(I)Z"⟩
def wsM_isFile : List Cond := .code yM_isFile cM_isFile 2 (some .boolean) :: jall
abbrev cM_isRecord : ByteArray := prog_8_method_6_code
def yM_isRecord : MethodName := ⟨RM, "isRecord", "(II)Z"⟩
def wsM_isRecord : List Cond := .code yM_isRecord cM_isRecord 3 (some .boolean) :: jall
abbrev cM_isKept : ByteArray := prog_8_method_7_code
def yM_isKept : MethodName := ⟨RM, "isKept", "(I)Z"⟩
def wsM_isKept : List Cond := .code yM_isKept cM_isKept 2 (some .boolean) :: jall
abbrev cM_valueAt : ByteArray := prog_8_method_8_code
def yM_valueAt : MethodName := ⟨RM, "valueAt", "(III)I"⟩
def wsM_valueAt : List Cond := .code yM_valueAt cM_valueAt 5 (some .int) :: jall
abbrev cM_cycleAt : ByteArray := prog_8_method_9_code
def yM_cycleAt : MethodName := ⟨RM, "cycleAt", "(II)I"⟩
def wsM_cycleAt : List Cond := .code yM_cycleAt cM_cycleAt 5 (some .int) :: jall
abbrev cM_isOn : ByteArray := prog_8_method_10_code
def yM_isOn : MethodName := ⟨RM, "isOn", "(II)Z"⟩
def wsM_isOn : List Cond := .code yM_isOn cM_isOn 7 (some .boolean) :: jall
abbrev cM_changesOf : ByteArray := prog_8_method_11_code
def yM_changesOf : MethodName := ⟨RM, "changesOf", "(I)I"⟩
def wsM_changesOf : List Cond := .code yM_changesOf cM_changesOf 5 (some .int) :: jall
abbrev cM_reserve : ByteArray := prog_8_method_12_code
def yM_reserve : MethodName := ⟨RM, "reserve", "()I"⟩
def wsM_reserve : List Cond := .code yM_reserve cM_reserve 4 (some .int) :: jall
abbrev cM_room : ByteArray := prog_8_method_13_code
def yM_room : MethodName := ⟨RM, "room", "()I"⟩
def wsM_room : List Cond := .code yM_room cM_room 2 (some .int) :: jall
abbrev cM_note : ByteArray := prog_8_method_14_code
def yM_note : MethodName := ⟨RM, "note", "(IIIII)V"⟩
def wsM_note : List Cond := .code yM_note cM_note 7 (none) :: jall
abbrev cM_landFirst : ByteArray := prog_8_method_15_code
def yM_landFirst : MethodName := ⟨RM, "landFirst", "()V"⟩
def wsM_landFirst : List Cond := .code yM_landFirst cM_landFirst 3 (none) :: jall
abbrev cM_put : ByteArray := prog_8_method_16_code
def yM_put : MethodName := ⟨RM, "put", "(IIII)V"⟩
def wsM_put : List Cond := .code yM_put cM_put 5 (none) :: jall
abbrev cM_undo : ByteArray := prog_8_method_17_code
def yM_undo : MethodName := ⟨RM, "undo", "(I)V"⟩
def wsM_undo : List Cond := .code yM_undo cM_undo 4 (none) :: jall
abbrev cM_file : ByteArray := prog_8_method_18_code
def yM_file : MethodName := ⟨RM, "file", "(I)I"⟩
def wsM_file : List Cond := .code yM_file cM_file 2 (some .int) :: jall
abbrev cM_isLocked : ByteArray := prog_8_method_19_code
def yM_isLocked : MethodName := ⟨RM, "isLocked", "(III)Z"⟩
def wsM_isLocked : List Cond := .code yM_isLocked cM_isLocked 8 (some .boolean) :: jall
abbrev cM_change : ByteArray := prog_8_method_20_code
def yM_change : MethodName := ⟨RM, "change", "(IIII)I"⟩
def wsM_change : List Cond := .code yM_change cM_change 6 (some .int) :: jall
abbrev cM_get : ByteArray := prog_8_method_21_code
def yM_get : MethodName := ⟨RM, "get", "(II)J"⟩
def wsM_get : List Cond := .code yM_get cM_get 3 (some .long) :: jall
abbrev cM_disk : ByteArray := prog_8_method_22_code
def yM_disk : MethodName := ⟨RM, "disk", "(II)J"⟩
def wsM_disk : List Cond := .code yM_disk cM_disk 3 (some .long) :: jall
abbrev cM_end : ByteArray := prog_8_method_23_code
def yM_end : MethodName := ⟨RM, "end", "(IZ)I"⟩
def wsM_end : List Cond := .code yM_end cM_end 3 (some .int) :: jall
abbrev cM_save : ByteArray := prog_8_method_24_code
def yM_save : MethodName := ⟨RM, "save", "(II)I"⟩
def wsM_save : List Cond := .code yM_save cM_save 3 (some .int) :: jall
abbrev cM_become : ByteArray := prog_8_method_25_code
def yM_become : MethodName := ⟨RM, "become", "(III)I"⟩
def wsM_become : List Cond := .code yM_become cM_become 8 (some .int) :: jall
abbrev cM_restore : ByteArray := prog_8_method_26_code
def yM_restore : MethodName := ⟨RM, "restore", "(I)I"⟩
def wsM_restore : List Cond := .code yM_restore cM_restore 3 (some .int) :: jall
abbrev cM_lacks : ByteArray := prog_8_method_27_code
def yM_lacks : MethodName := ⟨RM, "lacks", "(III)Z"⟩
def wsM_lacks : List Cond := .code yM_lacks cM_lacks 6 (some .boolean) :: jall
abbrev cM_apply : ByteArray := prog_8_method_28_code
def yM_apply : MethodName := ⟨RM, "apply", "(II)I"⟩
def wsM_apply : List Cond := .code yM_apply cM_apply 4 (some .int) :: jall
abbrev cM_remove : ByteArray := prog_8_method_29_code
def yM_remove : MethodName := ⟨RM, "remove", "(II)I"⟩
def wsM_remove : List Cond := .code yM_remove cM_remove 5 (some .int) :: jall
abbrev cM_number : ByteArray := prog_8_method_30_code
def yM_number : MethodName := ⟨RM, "number", "(I)I"⟩
def wsM_number : List Cond := .code yM_number cM_number 2 (some .int) :: jall
abbrev cM_last : ByteArray := prog_8_method_31_code
def yM_last : MethodName := ⟨RM, "last", "()I"⟩
def wsM_last : List Cond := .code yM_last cM_last 1 (some .int) :: jall
abbrev cM_boundary : ByteArray := prog_8_method_32_code
def yM_boundary : MethodName := ⟨RM, "boundary", "(II)Z"⟩
def wsM_boundary : List Cond := .code yM_boundary cM_boundary 3 (some .boolean) :: jall
abbrev cM_entry : ByteArray := prog_8_method_33_code
def yM_entry : MethodName := ⟨RM, "entry", "(II)J"⟩
def wsM_entry : List Cond := .code yM_entry cM_entry 3 (some .long) :: jall
abbrev cM_drop : ByteArray := prog_8_method_34_code
def yM_drop : MethodName := ⟨RM, "drop", "()I"⟩
def wsM_drop : List Cond := .code yM_drop cM_drop 5 (some .int) :: jall
abbrev cM_cut : ByteArray := prog_8_method_35_code
def yM_cut : MethodName := ⟨RM, "cut", "(I)I"⟩
def wsM_cut : List Cond := .code yM_cut cM_cut 3 (some .int) :: jall
abbrev cM_start : ByteArray := prog_8_method_36_code
def yM_start : MethodName := ⟨RM, "start", "()I"⟩
def wsM_start : List Cond := .code yM_start cM_start 3 (some .int) :: jall
abbrev cM_link : ByteArray := prog_8_method_37_code
def yM_link : MethodName := ⟨RM, "link", "(II)I"⟩
def wsM_link : List Cond := .code yM_link cM_link 6 (some .int) :: jall
abbrev cM_ack : ByteArray := prog_8_method_38_code
def yM_ack : MethodName := ⟨RM, "ack", "()I"⟩
def wsM_ack : List Cond := .code yM_ack cM_ack 1 (some .int) :: jall
abbrev cM_takeOver : ByteArray := prog_8_method_39_code
def yM_takeOver : MethodName := ⟨RM, "takeOver", "()I"⟩
def wsM_takeOver : List Cond := .code yM_takeOver cM_takeOver 1 (some .int) :: jall
abbrev cM_takenBack : ByteArray := prog_8_method_40_code
def yM_takenBack : MethodName := ⟨RM, "takenBack", "(II)I"⟩
def wsM_takenBack : List Cond := .code yM_takenBack cM_takenBack 8 (some .int) :: jall
abbrev cM_remote : ByteArray := prog_8_method_41_code
def yM_remote : MethodName := ⟨RM, "remote", "(II)J"⟩
def wsM_remote : List Cond := .code yM_remote cM_remote 4 (some .long) :: jall
abbrev cC_init : ByteArray := prog_2_method_1_code
def yC_init : MethodName := ⟨RC, "<init>", "()V"⟩
def wsC_init : List Cond := .code yC_init cC_init 1 (none) :: jall
abbrev cC_keep : ByteArray := prog_2_method_2_code
def yC_keep : MethodName := ⟨RC, "keep", "(III[I)V"⟩
def wsC_keep : List Cond := .code yC_keep cC_keep 5 (none) :: jall
abbrev cJ_init : ByteArray := prog_3_method_1_code
def yJ_init : MethodName := ⟨RJ, "<init>", "()V"⟩
def wsJ_init : List Cond := .code yJ_init cJ_init 1 (none) :: jall
abbrev cJ_addChange : ByteArray := prog_3_method_2_code
def yJ_addChange : MethodName := ⟨RJ, "addChange", "(IIII)V"⟩
def wsJ_addChange : List Cond := .code yJ_addChange cJ_addChange 5 (none) :: jall
abbrev cJ_addEnd : ByteArray := prog_3_method_3_code
def yJ_addEnd : MethodName := ⟨RJ, "addEnd", "(II)V"⟩
def wsJ_addEnd : List Cond := .code yJ_addEnd cJ_addEnd 3 (none) :: jall
abbrev cJ_noteOpenFiles : ByteArray := prog_3_method_4_code
def yJ_noteOpenFiles : MethodName := ⟨RJ, "noteOpenFiles", "()V"⟩
def wsJ_noteOpenFiles : List Cond := .code yJ_noteOpenFiles cJ_noteOpenFiles 3 (none) :: jall
abbrev cJ_isCycleOpen : ByteArray := prog_3_method_5_code
def yJ_isCycleOpen : MethodName := ⟨RJ, "isCycleOpen", "(I)Z"⟩
def wsJ_isCycleOpen : List Cond := .code yJ_isCycleOpen cJ_isCycleOpen 2 (some .boolean) :: jall
abbrev cJ_isCycleOn : ByteArray := prog_3_method_6_code
def yJ_isCycleOn : MethodName := ⟨RJ, "isCycleOn", "(I)Z"⟩
def wsJ_isCycleOn : List Cond := .code yJ_isCycleOn cJ_isCycleOn 2 (some .boolean) :: jall
abbrev cJ_isBoundary : ByteArray := prog_3_method_7_code
def yJ_isBoundary : MethodName := ⟨RJ, "isBoundary", "(II)Z"⟩
def wsJ_isBoundary : List Cond := .code yJ_isBoundary cJ_isBoundary 3 (some .boolean) :: jall
abbrev cJ_isLockedByAnother : ByteArray := prog_3_method_8_code
def yJ_isLockedByAnother : MethodName := ⟨RJ, "isLockedByAnother", "(II)Z"⟩
def wsJ_isLockedByAnother : List Cond := .code yJ_isLockedByAnother cJ_isLockedByAnother 4 (some .boolean) :: jall
abbrev cJ_isInOpenCycle : ByteArray := prog_3_method_9_code
def yJ_isInOpenCycle : MethodName := ⟨RJ, "isInOpenCycle", "(I)Z"⟩
def wsJ_isInOpenCycle : List Cond := .code yJ_isInOpenCycle cJ_isInOpenCycle 3 (some .boolean) :: jall
abbrev cJ_refusesChangeBy : ByteArray := prog_3_method_10_code
def yJ_refusesChangeBy : MethodName := ⟨RJ, "refusesChangeBy", "(I)Z"⟩
def wsJ_refusesChangeBy : List Cond := .code yJ_refusesChangeBy cJ_refusesChangeBy 3 (some .boolean) :: jall
abbrev cJ_refusesOwnChanges : ByteArray := prog_3_method_11_code
def yJ_refusesOwnChanges : MethodName := ⟨RJ, "refusesOwnChanges", "(I)Z"⟩
def wsJ_refusesOwnChanges : List Cond := .code yJ_refusesOwnChanges cJ_refusesOwnChanges 2 (some .boolean) :: jall
abbrev cJ_room : ByteArray := prog_3_method_12_code
def yJ_room : MethodName := ⟨RJ, "room", "()I"⟩
def wsJ_room : List Cond := .code yJ_room cJ_room 1 (some .int) :: jall
abbrev cJ_reserve : ByteArray := prog_3_method_13_code
def yJ_reserve : MethodName := ⟨RJ, "reserve", "()I"⟩
def wsJ_reserve : List Cond := .code yJ_reserve cJ_reserve 3 (some .int) :: jall
abbrev cJ_startOfOldest : ByteArray := prog_3_method_14_code
def yJ_startOfOldest : MethodName := ⟨RJ, "startOfOldest", "()I"⟩
def wsJ_startOfOldest : List Cond := .code yJ_startOfOldest cJ_startOfOldest 1 (some .int) :: jall
abbrev cJ_endOfOldest : ByteArray := prog_3_method_15_code
def yJ_endOfOldest : MethodName := ⟨RJ, "endOfOldest", "()I"⟩
def wsJ_endOfOldest : List Cond := .code yJ_endOfOldest cJ_endOfOldest 1 (some .int) :: jall
abbrev cJ_isKept : ByteArray := prog_3_method_16_code
def yJ_isKept : MethodName := ⟨RJ, "isKept", "(I)Z"⟩
def wsJ_isKept : List Cond := .code yJ_isKept cJ_isKept 2 (some .boolean) :: jall
abbrev cJ_canDropOldest : ByteArray := prog_3_method_17_code
def yJ_canDropOldest : MethodName := ⟨RJ, "canDropOldest", "()Z"⟩
def wsJ_canDropOldest : List Cond := .code yJ_canDropOldest cJ_canDropOldest 2 (some .boolean) :: jall
abbrev cJ_isChangeOf : ByteArray := prog_3_method_18_code
def yJ_isChangeOf : MethodName := ⟨RJ, "isChangeOf", "(II)Z"⟩
def wsJ_isChangeOf : List Cond := .code yJ_isChangeOf cJ_isChangeOf 3 (some .boolean) :: jall
abbrev cJ_keepsChangesOf : ByteArray := prog_3_method_19_code
def yJ_keepsChangesOf : MethodName := ⟨RJ, "keepsChangesOf", "(III)Z"⟩
def wsJ_keepsChangesOf : List Cond := .code yJ_keepsChangesOf cJ_keepsChangesOf 5 (some .boolean) :: jall
abbrev cL_init : ByteArray := prog_4_method_1_code
def yL_init : MethodName := ⟨RL, "<init>", "()V"⟩
def wsL_init : List Cond := .code yL_init cL_init 1 (none) :: jall
abbrev cL_isLetter : ByteArray := prog_4_method_2_code
def yL_isLetter : MethodName := ⟨RL, "isLetter", "(I)Z"⟩
def wsL_isLetter : List Cond := .code yL_isLetter cL_isLetter 2 (some .boolean) :: jall
abbrev cL_put : ByteArray := prog_4_method_3_code
def yL_put : MethodName := ⟨RL, "put", "(I)V"⟩
def wsL_put : List Cond := .code yL_put cL_put 2 (none) :: jall
abbrev cL_take : ByteArray := prog_4_method_4_code
def yL_take : MethodName := ⟨RL, "take", "(I)I"⟩
def wsL_take : List Cond := .code yL_take cL_take 3 (some .int) :: jall
abbrev cR_init : ByteArray := prog_5_method_1_code
def yR_init : MethodName := ⟨RR, "<init>", "()V"⟩
def wsR_init : List Cond := .code yR_init cR_init 1 (none) :: jall
abbrev cR_receive : ByteArray := prog_5_method_2_code
def yR_receive : MethodName := ⟨RR, "receive", "(ILJournalHouse$Journal;)V"⟩
def wsR_receive : List Cond := .code yR_receive cR_receive 3 (none) :: jall
abbrev cR_undoOpenCycles : ByteArray := prog_5_method_3_code
def yR_undoOpenCycles : MethodName := ⟨RR, "undoOpenCycles", "(LJournalHouse$Journal;)V"⟩
def wsR_undoOpenCycles : List Cond := .code yR_undoOpenCycles cR_undoOpenCycles 5 (none) :: jall
abbrev cS_init : ByteArray := prog_6_method_1_code
def yS_init : MethodName := ⟨RS, "<init>", "()V"⟩
def wsS_init : List Cond := .code yS_init cS_init 1 (none) :: jall
abbrev cS_write : ByteArray := prog_6_method_2_code
def yS_write : MethodName := ⟨RS, "write", "(II)V"⟩
def wsS_write : List Cond := .code yS_write cS_write 3 (none) :: jall
abbrev cS_landOldest : ByteArray := prog_6_method_3_code
def yS_landOldest : MethodName := ⟨RS, "landOldest", "(I)V"⟩
def wsS_landOldest : List Cond := .code yS_landOldest cS_landOldest 3 (none) :: jall
abbrev cS_loseWaiting : ByteArray := prog_6_method_4_code
def yS_loseWaiting : MethodName := ⟨RS, "loseWaiting", "()I"⟩
def wsS_loseWaiting : List Cond := .code yS_loseWaiting cS_loseWaiting 2 (some .int) :: jall
abbrev cS_readDisk : ByteArray := prog_6_method_5_code
def yS_readDisk : MethodName := ⟨RS, "readDisk", "()V"⟩
def wsS_readDisk : List Cond := .code yS_readDisk cS_readDisk 1 (none) :: jall
abbrev cS_writeDisk : ByteArray := prog_6_method_6_code
def yS_writeDisk : MethodName := ⟨RS, "writeDisk", "()V"⟩
def wsS_writeDisk : List Cond := .code yS_writeDisk cS_writeDisk 1 (none) :: jall
abbrev cZ_file : ByteArray := method_3_code
def yZ_file : MethodName := ⟨RZ, "file", "(LJournalHouse;I[J)I"⟩
abbrev cZ_change : ByteArray := method_4_code
def yZ_change : MethodName := ⟨RZ, "change", "(LJournalHouse;IIII[J)I"⟩
abbrev cZ_end : ByteArray := method_5_code
def yZ_end : MethodName := ⟨RZ, "end", "(LJournalHouse;IZ[J)I"⟩
abbrev cZ_save : ByteArray := method_6_code
def yZ_save : MethodName := ⟨RZ, "save", "(LJournalHouse;II[J)I"⟩
abbrev cZ_restore : ByteArray := method_7_code
def yZ_restore : MethodName := ⟨RZ, "restore", "(LJournalHouse;I[J)I"⟩
abbrev cZ_apply : ByteArray := method_8_code
def yZ_apply : MethodName := ⟨RZ, "apply", "(LJournalHouse;II[J)I"⟩
abbrev cZ_remove : ByteArray := method_9_code
def yZ_remove : MethodName := ⟨RZ, "remove", "(LJournalHouse;II[J)I"⟩
abbrev cZ_drop : ByteArray := method_10_code
def yZ_drop : MethodName := ⟨RZ, "drop", "(LJournalHouse;[J)I"⟩
abbrev cZ_cut : ByteArray := method_11_code
def yZ_cut : MethodName := ⟨RZ, "cut", "(LJournalHouse;I[J)I"⟩
abbrev cZ_start : ByteArray := method_12_code
def yZ_start : MethodName := ⟨RZ, "start", "(LJournalHouse;[J)I"⟩
abbrev cZ_link : ByteArray := method_13_code
def yZ_link : MethodName := ⟨RZ, "link", "(LJournalHouse;II[J)I"⟩
abbrev cZ_ack : ByteArray := method_14_code
def yZ_ack : MethodName := ⟨RZ, "ack", "(LJournalHouse;[J)I"⟩
end
section
/-! what a state is: arrays by number, scalars under number 100; a mirror of a method is a function into Option, none where the machine would leave its arrays or the rounds run out -/
abbrev JS : Type := Nat → Nat → Int32
def jw2 (σ : JS) (k j : Nat) (v : Int32) : JS := fun a => if a = k then upd (σ k) j v else σ a
def jwA (σ : JS) (k : Nat) (f : Nat → Int32) : JS := fun a => if a = k then f else σ a
def jst {α : Type} (X : JS) (K : JS → Option α) : Option α := K X
def jrd {α : Type} (σ : JS) (k n : Nat) (i : Int32) (K : Int32 → Option α) : Option α := if i < 0 ∨ n ≤ i.toNatClampNeg then none else K (σ k i.toNatClampNeg)
def jwr {α : Type} (σ : JS) (k n : Nat) (i v : Int32) (K : JS → Option α) : Option α := if i < 0 ∨ n ≤ i.toNatClampNeg then none else K (jw2 σ k i.toNatClampNeg v)
def jbn {α β : Type} (o : Option β) (K : β → Option α) : Option α := match o with
  | none => none
  | some x => K x
def jzc {α : Type} (v : Int32) (K : Option α) : Option α := if v = 0 ∨ v = 1 then K else none
def jcp {α : Type} (σ : JS) (k0 n0 k1 n1 : Nat) (sp dp n : Int32) (K : JS → Option α) : Option α := if sp < 0 ∨ dp < 0 ∨ n < 0 ∨ n0 < sp.toNatClampNeg + n.toNatClampNeg ∨ n1 < dp.toNatClampNeg + n.toNatClampNeg then none else K (jwA σ k1 (va_cpy (σ k0) (σ k1) sp.toNatClampNeg dp.toNatClampNeg n.toNatClampNeg))
def jmn {α : Type} (x y : Int32) (K : Int32 → Option α) : Option α := K (if y < x then y else x)
theorem jmn_e {α : Type} {x y : Int32} {K : Int32 → Option α} {o : α} (h : jmn x y K = some o) : ∃ z, z = (if y < x then y else x) ∧ K z = some o := ⟨_, rfl, h⟩
theorem jst_e {α : Type} {X : JS} {K : JS → Option α} {o : α} (h : jst X K = some o) : ∃ σ1, σ1 = X ∧ K σ1 = some o := ⟨X, rfl, h⟩
theorem jrd_e {α : Type} {σ : JS} {k n : Nat} {i : Int32} {K : Int32 → Option α} {o : α} (h : jrd σ k n i K = some o) : vp_in i n ∧ ∃ x, x = σ k i.toNatClampNeg ∧ K x = some o := by
  unfold jrd at h
  by_cases hc : i < 0 ∨ n ≤ i.toNatClampNeg
  · rw [if_pos hc] at h; cases h
  · rw [if_neg hc] at h; exact ⟨hc, _, rfl, h⟩
theorem jwr_e {α : Type} {σ : JS} {k n : Nat} {i v : Int32} {K : JS → Option α} {o : α} (h : jwr σ k n i v K = some o) : vp_in i n ∧ ∃ σ1, σ1 = jw2 σ k i.toNatClampNeg v ∧ K σ1 = some o := by
  unfold jwr at h
  by_cases hc : i < 0 ∨ n ≤ i.toNatClampNeg
  · rw [if_pos hc] at h; cases h
  · rw [if_neg hc] at h; exact ⟨hc, _, rfl, h⟩
theorem jbn_e {α β : Type} {x : Option β} {K : β → Option α} {o : α} (h : jbn x K = some o) : ∃ y, x = some y ∧ K y = some o := by
  cases x with
  | none => cases h
  | some y => exact ⟨y, rfl, h⟩
theorem jzc_e {α : Type} {v : Int32} {K : Option α} {o : α} (h : jzc v K = some o) : (v = 0 ∨ v = 1) ∧ K = some o := by
  unfold jzc at h
  by_cases hc : v = 0 ∨ v = 1
  · rw [if_pos hc] at h; exact ⟨hc, h⟩
  · rw [if_neg hc] at h; cases h
theorem jcp_e {α : Type} {σ : JS} {k0 n0 k1 n1 : Nat} {sp dp n : Int32} {K : JS → Option α} {o : α} (h : jcp σ k0 n0 k1 n1 sp dp n K = some o) : ¬ sp < 0 ∧ ¬ dp < 0 ∧ ¬ n < 0 ∧ sp.toNatClampNeg + n.toNatClampNeg ≤ n0 ∧ dp.toNatClampNeg + n.toNatClampNeg ≤ n1 ∧ ∃ σ1, σ1 = jwA σ k1 (va_cpy (σ k0) (σ k1) sp.toNatClampNeg dp.toNatClampNeg n.toNatClampNeg) ∧ K σ1 = some o := by
  unfold jcp at h
  by_cases hc : sp < 0 ∨ dp < 0 ∨ n < 0 ∨ n0 < sp.toNatClampNeg + n.toNatClampNeg ∨ n1 < dp.toNatClampNeg + n.toNatClampNeg
  · rw [if_pos hc] at h; cases h
  · rw [if_neg hc] at h
    refine ⟨fun z => hc (Or.inl z), fun z => hc (Or.inr (Or.inl z)), fun z => hc (Or.inr (Or.inr (Or.inl z))), Nat.not_lt.mp fun z => hc (Or.inr (Or.inr (Or.inr (Or.inl z)))), Nat.not_lt.mp fun z => hc (Or.inr (Or.inr (Or.inr (Or.inr z)))), _, rfl, h⟩
theorem jit {α : Type} {c : Prop} {hd : Decidable c} {a b : Option α} {o : α} (h : (if c then a else b) = some o) (hc : c) : a = some o := by rwa [if_pos hc] at h
theorem jif {α : Type} {c : Prop} {hd : Decidable c} {a b : Option α} {o : α} (h : (if c then a else b) = some o) (hc : ¬ c) : b = some o := by rwa [if_neg hc] at h
theorem jsm {α : Type} {a o : α} (h : some a = some o) : o = a := (Option.some.inj h).symm
theorem jnz {v : Int32} (h : v = 0 ∨ v = 1) : narrow .boolean (.int v) = .int v := by
  rcases h with rfl | rfl <;> rfl
/-! the world of a walk -/
def jH (D : va_G) (tys : List (ClassId × FieldType)) (ws : va_W) (A : Nat → Prop) (H0 H : Heap) (locs : List Loc) (s : State) : Prop := va_P D vwCl ws H ∧ va_D A ws ∧ va_S A H0 H locs ∧ va_K D vwCl tys s
def jB (D : va_G) (tys : List (ClassId × FieldType)) (C : JS → va_W) (A : Nat → Prop) (u : JS) (t : State) : Prop := va_P D vwCl (C u) t.heap ∧ va_K D vwCl tys t ∧ va_D A (C u)
def jPre (D : va_G) (tys : List (ClassId × FieldType)) (ws : va_W) (N : State → Prop) (sz : Nat) (av : List Value) : Array Value → State → Prop := va_Pc av (fun U => U.heap.size = sz ∧ va_P D vwCl ws U.heap ∧ va_K D vwCl tys U ∧ va_D (fun _ => True) ws ∧ N U)
def jQi (D : va_G) (tys : List (ClassId × FieldType)) (C : JS → va_W) (A : Nat → Prop) (v : Int32) (σ : JS) : Array Value → State → Outcome → State → Prop := va_Qi (fun (r : Int32) (u : JS) => r = v ∧ u = σ) (jB D tys C A) A
def jQl (D : va_G) (tys : List (ClassId × FieldType)) (C : JS → va_W) (A : Nat → Prop) (v : Int64) (σ : JS) : Array Value → State → Outcome → State → Prop := va_Ql (fun (r : Int64) (u : JS) => r = v ∧ u = σ) (jB D tys C A) A
def jQv (D : va_G) (tys : List (ClassId × FieldType)) (C : JS → va_W) (A : Nat → Prop) (σ : JS) : Array Value → State → Outcome → State → Prop := va_Qv (fun (u : JS) => u = σ) (jB D tys C A) A
section JR
variable {p : Program} {l : Launch} {e : Env} {R : Room} {s : State} {m : MethodId} {args : Array Value} {below : List Frame} {meth : Method} {c : Code} {H : Heap} {locs : List Loc} {cells slots : Nat} {Q : State → Prop}
variable {cc : ByteArray} {nL pc : Nat} {ls : Array Slot} {rest : List Value} {Ts : List Cond} {own : String} {D : va_G} {tys : List (ClassId × FieldType)} {ws ws' : va_W} {A : Nat → Prop} {H0 : Heap} {C : JS → va_W} {σ σ' : JS}
theorem j_iald (S : CallFix p m c cc nL s args Ts own) (hw : jH D tys ws A H0 H locs s) (q0 t0 : Nat) {a : Nat} {cA : ClassId} {n : Nat} {f : Nat → Int32} (ha : ws[q0]? = some (a, .inl (cA, n, .inl f))) (ht : tys[t0]? = some (cA, .int)) {i x : Int32} (hin : vp_in i n) (hx : x = f i.toNatClampNeg) (hdg : decode cc pc = .ok (.iaload, 1))
    (kk : W p l e R s m args below meth c H locs cells slots Q (F0 m (pc + 1) ls (.int x :: rest))) : W p l e R s m args below meth c H locs cells slots Q (F0 m pc ls (.int i :: .ref a :: rest)) := by
  subst hx
  exact va_iald S.1 S.2.1 hw.2.2.2 hw.1 q0 t0 ha ht hin hdg kk
theorem j_zald (S : CallFix p m c cc nL s args Ts own) (hw : jH D tys ws A H0 H locs s) (q0 t0 : Nat) {a : Nat} {cA : ClassId} {n : Nat} {f : Nat → Int32} (ha : ws[q0]? = some (a, .inl (cA, n, .inl f))) (ht : tys[t0]? = some (cA, .boolean)) {i x : Int32} (hin : vp_in i n) (hx : x = f i.toNatClampNeg) (hdg : decode cc pc = .ok (.baload, 1))
    (kk : W p l e R s m args below meth c H locs cells slots Q (F0 m (pc + 1) ls (.int x :: rest))) : W p l e R s m args below meth c H locs cells slots Q (F0 m pc ls (.int i :: .ref a :: rest)) := by
  subst hx
  exact va_zald S.1 S.2.1 hw.2.2.2 hw.1 q0 t0 ha ht hin hdg kk
theorem j_iast (S : CallFix p m c cc nL s args Ts own) (hw : jH D tys ws A H0 H locs s) (q0 t0 : Nat) {a : Nat} {cA : ClassId} {n : Nat} {f : Nat → Int32} (ha : ws[q0]? = some (a, .inl (cA, n, .inl f))) (ht : tys[t0]? = some (cA, .int)) {i v : Int32} (hin : vp_in i n) (hset : ws.set q0 (a, .inl (cA, n, .inl (upd f i.toNatClampNeg v))) = ws') (hdg : decode cc pc = .ok (.iastore, 1))
    (kk : ∀ (H1 : Heap) (locs1 : List Loc), jH D tys ws' A H0 H1 locs1 s → W p l e R s m args below meth c H1 locs1 cells slots Q (F0 m (pc + 1) ls rest)) : W p l e R s m args below meth c H locs cells slots Q (F0 m pc ls (.int v :: .int i :: .ref a :: rest)) := by
  subst hset
  exact va_iast S.1 S.2.1 hw.2.2.2 hw.1 hw.2.1 hw.2.2.1 q0 t0 ha ht hin hdg (fun H1 locs1 hP hD hS => kk H1 locs1 ⟨hP, hD, hS, hw.2.2.2⟩)
theorem j_zast (S : CallFix p m c cc nL s args Ts own) (hw : jH D tys ws A H0 H locs s) (q0 t0 : Nat) {a : Nat} {cA : ClassId} {n : Nat} {f : Nat → Int32} (ha : ws[q0]? = some (a, .inl (cA, n, .inl f))) (ht : tys[t0]? = some (cA, .boolean)) {i v : Int32} (hin : vp_in i n) (hv : vp_nar .boolean v = v) (hset : ws.set q0 (a, .inl (cA, n, .inl (upd f i.toNatClampNeg v))) = ws') (hdg : decode cc pc = .ok (.bastore, 1))
    (kk : ∀ (H1 : Heap) (locs1 : List Loc), jH D tys ws' A H0 H1 locs1 s → W p l e R s m args below meth c H1 locs1 cells slots Q (F0 m (pc + 1) ls rest)) : W p l e R s m args below meth c H locs cells slots Q (F0 m pc ls (.int v :: .int i :: .ref a :: rest)) := by
  subst hset
  refine va_zast S.1 S.2.1 hw.2.2.2 hw.1 hw.2.1 hw.2.2.1 q0 t0 ha ht hin hdg (fun H1 locs1 hP hD hS => kk H1 locs1 ⟨?_, ?_, hS, hw.2.2.2⟩)
  · rw [hv] at hP; exact hP
  · rw [hv] at hD; exact hD
theorem j_get (S : CallFix p m c cc nL s args Ts own) (hw : jH D tys ws A H0 H locs s) {C : String} {T : u_T} {N : Nat} (hin : ∀ w ∈ u_ws C T N, w ∈ Ts) (q0 ci k : Nat) {a index : Nat} {fs : List Value} (he : ws[q0]? = some (a, .inr (ci, fs))) (hc : vwCl[ci]? = some (C, T, N)) (hk : k < N) (hlink : Cond.fieldLink own index (T k).1 (T k).2.1 (T k).2.2.1 ∈ Ts) {v : Value} (hv : fs[k]? = some v) (hdg : decode cc pc = .ok (.getfield index, 3))
    (kk : W p l e R s m args below meth c H locs cells slots Q (F0 m (pc + 3) ls (v :: rest))) : W p l e R s m args below meth c H locs cells slots Q (F0 m pc ls (.ref a :: rest)) :=
  va_get S.1 S.2.1 S.2.2.2.2 hin S.2.2.2.1 hw.2.2.2 hw.1 q0 he hc k hk (S.2.2.2.2 _ hlink) (fun _ h9 => h9) hv hdg kk
theorem j_put (S : CallFix p m c cc nL s args Ts own) (hw : jH D tys ws A H0 H locs s) {C : String} {T : u_T} {N : Nat} (hin : ∀ w ∈ u_ws C T N, w ∈ Ts) (ty0 : Nat → FieldType) (hty : ∀ k, k < N → parseFieldDescriptor (T k).2.2.1 = some (ty0 k)) (hnm : ∀ a, a < N → ∀ b, b < N → a ≠ b → (T a).2.1 ≠ (T b).2.1) (q0 ci k : Nat) {a index : Nat} {fs : List Value} (he : ws[q0]? = some (a, .inr (ci, fs))) (hc : vwCl[ci]? = some (C, T, N)) (hk : k < N) (hlink : Cond.fieldLink own index (T k).1 (T k).2.1 (T k).2.2.1 ∈ Ts) (hfin : (T k).2.2.2 = false) {v : Value} (hn : narrow (ty0 k) v = v) (hfit : fits (ty0 k) v = true) (hl : k < fs.length) (hset : ws.set q0 (a, .inr (ci, fs.set k v)) = ws') (hdg : decode cc pc = .ok (.putfield index, 3))
    (kk : ∀ (H1 : Heap) (locs1 : List Loc), jH D tys ws' A H0 H1 locs1 s → W p l e R s m args below meth c H1 locs1 cells slots Q (F0 m (pc + 3) ls rest)) : W p l e R s m args below meth c H locs cells slots Q (F0 m pc ls (v :: .ref a :: rest)) := by
  subst hset
  exact va_put S.1 S.2.1 S.2.2.2.2 hin ty0 hty hnm S.2.2.2.1 hw.2.2.2 hw.1 hw.2.1 hw.2.2.1 q0 he hc k hk (S.2.2.2.2 _ hlink) (fun _ h9 => h9) hfin (hty k hk) hn hfit hl hdg (fun H1 locs1 hP hD hS => kk H1 locs1 ⟨hP, hD, hS, hw.2.2.2⟩)
/-- what a callee may write is the caller's to write -/
theorem j_free {A0 : Nat → Prop} (hw : jH D tys ws A0 H0 H locs s) (hA : ∀ q, H0.size ≤ q → A0 q) : ∀ q, va_A ws H.size q → A0 q := by
  intro q h
  rcases h with ⟨k, e, h⟩ | h
  · exact hw.2.1.2 k (q, e) h
  · exact hA q (Nat.le_trans hw.2.2.1.1 h)
theorem j_blind {N : State → Prop} {sz : Nat} {av : List Value} (hb : ∀ (U : State) (g : JFrame) (mk : MethodId) (a : Array Value), N U → N (U.calling g mk a)) : FrameBlind (jPre D tys ws N sz av) := by
  intro a U g mk q
  obtain ⟨q0, q1, qP, qK, qD, qN⟩ := q
  exact ⟨q0, q1, qP, va_K.moved (u := U) (U := U.calling g mk a) (Vm.Alike.refl U.vm) qK, qD, hb U g mk a qN⟩
theorem j_preS {N : State → Prop} {As : List Value} (hw : jH D tys ws A H0 H locs s) (hb : ∀ (U : State) (g : JFrame) (mk : MethodId) (a : Array Value), N U → N (U.calling g mk a)) (hN : ∀ U : State, U.heap = H → s.WarmedH U.vm → N U) : PreS s H (jPre D tys ws N H.size As) As :=
  ⟨j_blind hb, fun U hU hW => ⟨rfl, by rw [hU], by rw [hU]; exact hw.1, va_K.moved hW.alike hw.2.2.2, hw.2.1.weaken (fun _ _ _ _ => trivial), hN U hU hW⟩⟩
theorem j_preV {N : State → Prop} {As : List Value} (hw : jH D tys ws A H0 H locs s) (hb : ∀ (U : State) (g : JFrame) (mk : MethodId) (a : Array Value), N U → N (U.calling g mk a)) (hN : ∀ U : State, U.heap = H → s.WarmedH U.vm → N U) {a q0 ci : Nat} {q : vw_C} {fs : List Value} (hc : vwCl[ci]? = some q) (he : ws[q0]? = some (a, .inr (ci, fs))) : PreV s H q.1 a (jPre D tys ws N H.size (.ref a :: As)) As :=
  ⟨j_blind hb, va_recv hw.2.2.2 hw.1 hc he, fun U hU hW => ⟨rfl, by rw [hU], by rw [hU]; exact hw.1, va_K.moved hW.alike hw.2.2.2, hw.2.1.weaken (fun _ _ _ _ => trivial), hN U hU hW⟩⟩
theorem j_calli {av : Array Value} {st0 : List Value} {v : Int32} (hw : jH D tys (C σ) A H0 H locs s) (hA : ∀ q, H0.size ≤ q → A q) (hr : va_Run p l e R s m args below meth c H locs cells slots 0 0 (F0 m pc ls st0) rest (jQi D tys C (va_A (C σ) H.size) v σ' av) (va_A (C σ) H.size))
    (kk : ∀ (H1 : Heap) (locs1 : List Loc), jH D tys (C σ') A H0 H1 locs1 s → W p l e R s m args below meth c H1 locs1 cells slots Q (F0 m (pc + 3) ls (.int v :: rest))) : W p l e R s m args below meth c H locs cells slots Q (F0 m pc ls st0) := by
  refine va_calli hr hw.2.2.1 (fun q _ h => j_free hw hA q h) (j_free hw hA) (fun r u t H1 locs1 ht hvm hp hB hz hk hS => ?_)
  obtain ⟨rfl, rfl⟩ := hp
  obtain ⟨hP1, hK1, hD1⟩ := hB
  rw [ht] at hP1
  exact kk H1 locs1 ⟨hP1, hD1.weaken (fun _ _ _ h => j_free hw hA _ h), hS, hw.2.2.2⟩
theorem j_calll {av : Array Value} {st0 : List Value} {v : Int64} (hw : jH D tys (C σ) A H0 H locs s) (hA : ∀ q, H0.size ≤ q → A q) (hr : va_Run p l e R s m args below meth c H locs cells slots 0 0 (F0 m pc ls st0) rest (jQl D tys C (va_A (C σ) H.size) v σ' av) (va_A (C σ) H.size))
    (kk : ∀ (H1 : Heap) (locs1 : List Loc), jH D tys (C σ') A H0 H1 locs1 s → W p l e R s m args below meth c H1 locs1 cells slots Q (F0 m (pc + 3) ls (.long v :: rest))) : W p l e R s m args below meth c H locs cells slots Q (F0 m pc ls st0) := by
  refine va_calll hr hw.2.2.1 (fun q _ h => j_free hw hA q h) (j_free hw hA) (fun r u t H1 locs1 ht hvm hp hB hz hk hS => ?_)
  obtain ⟨rfl, rfl⟩ := hp
  obtain ⟨hP1, hK1, hD1⟩ := hB
  rw [ht] at hP1
  exact kk H1 locs1 ⟨hP1, hD1.weaken (fun _ _ _ h => j_free hw hA _ h), hS, hw.2.2.2⟩
theorem j_callv {av : Array Value} {st0 : List Value} (hw : jH D tys (C σ) A H0 H locs s) (hA : ∀ q, H0.size ≤ q → A q) (hr : va_Run p l e R s m args below meth c H locs cells slots 0 0 (F0 m pc ls st0) rest (jQv D tys C (va_A (C σ) H.size) σ' av) (va_A (C σ) H.size))
    (kk : ∀ (H1 : Heap) (locs1 : List Loc), jH D tys (C σ') A H0 H1 locs1 s → W p l e R s m args below meth c H1 locs1 cells slots Q (F0 m (pc + 3) ls rest)) : W p l e R s m args below meth c H locs cells slots Q (F0 m pc ls st0) := by
  refine va_callv hr hw.2.2.1 (fun q _ h => j_free hw hA q h) (j_free hw hA) (fun u t H1 locs1 ht hvm hp hB hz hk hS => ?_)
  obtain rfl := hp
  obtain ⟨hP1, hK1, hD1⟩ := hB
  rw [ht] at hP1
  exact kk H1 locs1 ⟨hP1, hD1.weaken (fun _ _ _ h => j_free hw hA _ h), hS, hw.2.2.2⟩
theorem j_iret (S : CallFix p m c cc nL s args Ts own) (hw : jH D tys (C σ) A s.heap H locs s) (hr : meth.sig.returnType = some .int) (hlk : meth.locks = false) {v : Int32} (hdg : decode cc pc = .ok (.ireturn, 1)) : W p l e R s m args below meth c H locs cells slots (MQ below (jQi D tys C A v σ) args s cells slots A) (F0 m pc ls [.int v]) :=
  W.iret (v := v) S.1 S.2.1 hr (fun t ht hW => ⟨⟨v, σ, rfl, ⟨rfl, rfl⟩, by rw [ht]; exact hw.1, va_K.moved hW.alike hw.2.2.2, hw.2.1⟩, hw.2.2.1.F ht⟩) hw.2.2.1.2.2 hdg hlk
theorem j_zret (S : CallFix p m c cc nL s args Ts own) (hw : jH D tys (C σ) A s.heap H locs s) (hr : meth.sig.returnType = some .boolean) (hlk : meth.locks = false) {v : Int32} (hn : v = 0 ∨ v = 1) (hdg : decode cc pc = .ok (.ireturn, 1)) : W p l e R s m args below meth c H locs cells slots (MQ below (jQi D tys C A v σ) args s cells slots A) (F0 m pc ls [.int v]) :=
  W.zret (v := v) S.1 S.2.1 hr (jnz hn) (fun t ht hW => ⟨⟨v, σ, rfl, ⟨rfl, rfl⟩, by rw [ht]; exact hw.1, va_K.moved hW.alike hw.2.2.2, hw.2.1⟩, hw.2.2.1.F ht⟩) hw.2.2.1.2.2 hdg hlk
theorem j_lret (S : CallFix p m c cc nL s args Ts own) (hw : jH D tys (C σ) A s.heap H locs s) (hr : meth.sig.returnType = some .long) (hlk : meth.locks = false) {v : Int64} (hdg : decode cc pc = .ok (.lreturn, 1)) : W p l e R s m args below meth c H locs cells slots (MQ below (jQl D tys C A v σ) args s cells slots A) (F0 m pc ls [.long v]) :=
  W.lret (v := v) S.1 S.2.1 hr (fun t ht hW => ⟨⟨v, σ, rfl, ⟨rfl, rfl⟩, by rw [ht]; exact hw.1, va_K.moved hW.alike hw.2.2.2, hw.2.1⟩, hw.2.2.1.F ht⟩) hw.2.2.1.2.2 hdg hlk
theorem j_vret (S : CallFix p m c cc nL s args Ts own) (hw : jH D tys (C σ) A s.heap H locs s) (hr : meth.sig.returnType = none) (hlk : meth.locks = false) (hdg : decode cc pc = .ok (.return_, 1)) : W p l e R s m args below meth c H locs cells slots (MQ below (jQv D tys C A σ) args s cells slots A) (F0 m pc ls []) :=
  W.vret S.1 S.2.1 hr (fun t ht hW => ⟨⟨σ, rfl, rfl, by rw [ht]; exact hw.1, va_K.moved hW.alike hw.2.2.2, hw.2.1⟩, hw.2.2.1.F ht⟩) hw.2.2.1.2.2 hdg hlk
end JR
/-! what is carried beside a world: words of the tables that a call does not hand on, and what Throwable's statics hold: true in every state that differs from U in what A names alone -/
def jNl : List Cond := (lw_tbl.filter (fun w => !goodWord w)) ++ [.isRef (.static "java/lang/Throwable" "UNASSIGNED_STACK" "[Ljava/lang/StackTraceElement;"), .isRef (.static "java/lang/Throwable" "SUPPRESSED_SENTINEL" "Ljava/util/List;")]
def xN (A : Nat → Prop) (U : State) : Prop := ∀ w ∈ jNl, ∀ (T : State) (a : Array Value), U.WarmedH T.vm → U.heap.size ≤ T.heap.size → (∀ q : Nat, q < U.heap.size → ¬ A q → T.heap[q]? = U.heap[q]?) → w.before a T = true
def mN (_ : Nat → Prop) (_ : State) : Prop := True
theorem xN_b {A : Nat → Prop} (U : State) (g : JFrame) (mk : MethodId) (a : Array Value) (h : xN A U) : xN A (U.calling g mk a) := fun w hw T b hW hs hk => h w hw T b hW hs hk
theorem mN_b {A : Nat → Prop} (U : State) (g : JFrame) (mk : MethodId) (a : Array Value) (_ : mN A U) : mN A (U.calling g mk a) := trivial
theorem xN_to {D : va_G} {tys : List (ClassId × FieldType)} {ws : va_W} {A : Nat → Prop} {H : Heap} {locs : List Loc} {s : State} (h : xN A s) (hw : jH D tys ws A s.heap H locs s) (hA : ∀ q, s.heap.size ≤ q → A q) : ∀ U : State, U.heap = H → s.WarmedH U.vm → xN (va_A ws H.size) U := by
  intro U hU hW w hw1 T b hW2 hs hk
  refine h w hw1 T b (State.WarmedH.trans hW hW2) (Nat.le_trans hw.2.2.1.1 (by rw [← hU]; exact hs)) (fun q hq hnA => ?_)
  have h1 : q < U.heap.size := by rw [hU]; exact Nat.lt_of_lt_of_le hq hw.2.2.1.1
  rw [hk q h1 (fun z => hnA (j_free hw hA q z)), hU]
  exact hw.2.2.1.2.1 q hq hnA
theorem mN_to {D : va_G} {tys : List (ClassId × FieldType)} {ws : va_W} {A : Nat → Prop} {H : Heap} {locs : List Loc} {s : State} (_ : mN A s) (_ : jH D tys ws A s.heap H locs s) (_ : ∀ q, s.heap.size ≤ q → A q) : ∀ U : State, U.heap = H → s.WarmedH U.vm → mN (va_A ws H.size) U := fun _ _ _ => trivial
theorem xN_w {A : Nat → Prop} {s : State} (h : xN A s) {w : Cond} (hw : w ∈ jNl) (a : Array Value) : w.before a s = true := h w hw s a (State.WarmedH.refl s) (Nat.le_refl _) (fun _ _ _ => rfl)
theorem jNl_t {w : Cond} (i : Nat) (h : tables_1[i]? = some w) (g : goodWord w = false) : w ∈ jNl := List.mem_append_left _ (List.mem_filter.mpr ⟨List.mem_append_right _ (List.mem_of_getElem? h), by rw [g]; rfl⟩)
theorem jgV {own C : String} {idx maxL : Nat} {y : MethodName} {bytes : ByteArray} {ret : Option FieldType} (h1 : Cond.methodLink own idx y ∈ jall) (h2 : Cond.instanceMethod y ∈ jall) (h3 : Cond.selects C y y ∈ jall) (h4 : Cond.initialized C ∈ jall) (h5 : Cond.code y bytes maxL ret ∈ jall) : GoodIn jall (wsV own idx C y (.code y bytes maxL ret :: jall)) := by
  refine jall_G fun w hw => ?_
  unfold wsV at hw
  rcases List.mem_append.mp hw with h | h
  · simp only [List.mem_cons, List.not_mem_nil, or_false] at h
    rcases h with rfl | rfl | rfl | rfl <;> assumption
  · rcases List.mem_cons.mp h with rfl | h
    · exact h5
    · exact h
theorem jgS {own : String} {idx maxL : Nat} {y : MethodName} {bytes : ByteArray} {ret : Option FieldType} (h1 : Cond.methodLink own idx y ∈ jall) (h2 : Cond.static y ∈ jall) (h4 : Cond.initialized own ∈ jall) (h5 : Cond.code y bytes maxL ret ∈ jall) : GoodIn jall (wsS own idx y (.code y bytes maxL ret :: jall)) := by
  refine jall_G fun w hw => ?_
  unfold wsS at hw
  rcases List.mem_append.mp hw with h | h
  · simp only [List.mem_cons, List.not_mem_nil, or_false] at h
    rcases h with rfl | rfl | rfl <;> assumption
  · rcases List.mem_cons.mp h with rfl | h
    · exact h5
    · exact h
theorem jgN {maxL : Nat} {y : MethodName} {bytes : ByteArray} {ret : Option FieldType} (h5 : Cond.code y bytes maxL ret ∈ jall) : GoodIn jall (.code y bytes maxL ret :: jall) := by
  refine jall_G fun w hw => ?_
  rcases List.mem_cons.mp hw with rfl | h
  · exact h5
  · exact h
theorem j_inc (x : Int32) {n : Int} {w : Int32} (h : Int32.ofInt n = w) : x + Int32.ofInt n = x + w := by rw [h]
section JR2
variable {p : Program} {l : Launch} {e : Env} {R : Room} {s : State} {m : MethodId} {args : Array Value} {below : List Frame} {meth : Method} {c : Code} {H : Heap} {locs : List Loc} {cells slots : Nat} {Q : State → Prop}
variable {cc : ByteArray} {nL pc : Nat} {ls : Array Slot} {rest : List Value} {own : String} {D : va_G} {tys : List (ClassId × FieldType)} {ws ws' : va_W} {A : Nat → Prop} {H0 : Heap}
theorem j_copyi (S : CallFix p m c cc nL s args jall own) (hw : jH D tys ws A H0 H locs s) (hls : ls.size = nL) {index : Nat} (hlink : Cond.methodLink own index arraycopyName ∈ jall) (hnat : Cond.native arraycopyName ∈ jall) (hstat : Cond.static arraycopyName ∈ jall) (hini : Cond.initialized "java/lang/System" ∈ jall) (q0 q1 t0 t1 : Nat) {a a0 : Nat} {c0 c1 : ClassId} {n0 n1 : Nat} {f g : Nat → Int32} (ha0 : ws[q0]? = some (a0, .inl (c0, n0, .inl f))) (ha1 : ws[q1]? = some (a, .inl (c1, n1, .inl g))) (ht0 : tys[t0]? = some (c0, .int)) (ht1 : tys[t1]? = some (c1, .int))
    {sp dp n : Int32} (h1 : ¬ sp < 0) (h2 : ¬ dp < 0) (h3 : ¬ n < 0) (h4 : sp.toNatClampNeg + n.toNatClampNeg ≤ n0) (h5 : dp.toNatClampNeg + n.toNatClampNeg ≤ n1) (hset : ws.set q1 (a, .inl (c1, n1, .inl (va_cpy f g sp.toNatClampNeg dp.toNatClampNeg n.toNatClampNeg))) = ws')
    (hframes : 1 ≤ R.frames) (hlocals : (rest.map fun v => v.category).sum + (nativeFrameWords "java/lang/System" "arraycopy" 5 + 11) ≤ R.locals) (hdg : decode cc pc = .ok (.invokestatic index, 3))
    (kk : ∀ (H1 : Heap) (locs1 : List Loc), jH D tys ws' A H0 H1 locs1 s → W p l e R s m args below meth c H1 locs1 cells slots Q (F0 m (pc + 3) ls rest)) : W p l e R s m args below meth c H locs cells slots Q (F0 m pc ls (.int n :: .int dp :: .ref a :: .int sp :: .ref a0 :: rest)) := by
  subst hset
  exact va_copyi S.1 S.2.1 (S.2.2.1.trans hls.symm) S.2.2.2.1 (S.2.2.2.2 _ hlink) (S.2.2.2.2 _ hnat) (S.2.2.2.2 _ hstat) (S.2.2.2.2 _ hini) hw.2.2.2 hw.1 hw.2.1 hw.2.2.1 q0 q1 t0 t1 ha0 ha1 ht0 ht1 rfl h1 h2 h3 h4 h5 (fun _ _ => rfl) hframes hlocals hdg (fun H1 locs1 hP hD hS => kk H1 locs1 ⟨hP, hD, hS, hw.2.2.2⟩)
end JR2
end
section
def xF_0 (ad : Nat → Nat) (σ : JS) : List Value := [.ref (ad 1), .ref (ad 2), .ref (ad 3), .ref (ad 4), .ref (ad 5), .ref (ad 26), .ref (ad 27), .ref (ad 28), .ref (ad 29), .int (σ 100 6), .int (σ 100 7), .int (σ 100 8)]
def xF_1 (ad : Nat → Nat) (σ : JS) : List Value := [.ref (ad 6), .ref (ad 7), .ref (ad 8), .ref (ad 9), .ref (ad 10), .ref (ad 11), .ref (ad 12), .ref (ad 13), .ref (ad 14), .int (σ 100 0), .int (σ 100 1)]
def xF_2 (ad : Nat → Nat) (σ : JS) : List Value := [.ref (ad 15), .ref (ad 16), .ref (ad 17), .ref (ad 18), .int (σ 100 2)]
def xF_3 (ad : Nat → Nat) (σ : JS) : List Value := [.ref (ad 19), .ref (ad 20), .ref (ad 21), .ref (ad 22)]
def xF_4 (ad : Nat → Nat) (σ : JS) : List Value := [.ref (ad 23), .int (σ 100 3)]
def xF_5 (ad : Nat → Nat) (σ : JS) : List Value := [.ref (ad 24), .ref (ad 25), .int (σ 100 4), .int (σ 100 5)]
def xC (ca : Nat → ClassId) (ad : Nat → Nat) (σ : JS) : va_W := [(ad 0, .inr (0, xF_0 ad σ)), (ad 1, .inr (1, xF_1 ad σ)), (ad 2, .inr (2, xF_2 ad σ)), (ad 3, .inr (3, xF_3 ad σ)), (ad 4, .inr (4, xF_4 ad σ)), (ad 5, .inr (5, xF_5 ad σ)), (ad 6, .inl (ca 6, 121, .inl (σ 6))), (ad 7, .inl (ca 7, 121, .inl (σ 7))), (ad 8, .inl (ca 8, 121, .inl (σ 8))), (ad 9, .inl (ca 9, 121, .inl (σ 9))), (ad 10, .inl (ca 10, 121, .inl (σ 10))), (ad 11, .inl (ca 11, 121, .inl (σ 11))), (ad 12, .inl (ca 12, 4, .inl (σ 12))), (ad 13, .inl (ca 13, 4, .inl (σ 13))), (ad 14, .inl (ca 14, 4, .inl (σ 14))), (ad 15, .inl (ca 15, 24, .inl (σ 15))), (ad 16, .inl (ca 16, 24, .inl (σ 16))), (ad 17, .inl (ca 17, 24, .inl (σ 17))), (ad 18, .inl (ca 18, 24, .inl (σ 18))), (ad 19, .inl (ca 19, 4, .inl (σ 19))), (ad 20, .inl (ca 20, 4, .inl (σ 20))), (ad 21, .inl (ca 21, 4, .inl (σ 21))), (ad 22, .inl (ca 22, 32, .inl (σ 22))), (ad 23, .inl (ca 23, 16, .inl (σ 23))), (ad 24, .inl (ca 24, 24, .inl (σ 24))), (ad 25, .inl (ca 25, 121, .inl (σ 25))), (ad 26, .inl (ca 26, 3, .inl (σ 26))), (ad 27, .inl (ca 27, 3, .inl (σ 27))), (ad 28, .inl (ca 28, 3, .inl (σ 28))), (ad 29, .inl (ca 29, 8, .inl (σ 29)))]
def xT (ca : Nat → ClassId) : List (ClassId × FieldType) := [(ca 6, .int), (ca 7, .int), (ca 8, .int), (ca 9, .int), (ca 10, .int), (ca 11, .int), (ca 12, .int), (ca 13, .int), (ca 14, .int), (ca 15, .int), (ca 16, .int), (ca 17, .int), (ca 18, .int), (ca 19, .boolean), (ca 20, .int), (ca 21, .int), (ca 22, .int), (ca 23, .int), (ca 24, .int), (ca 25, .boolean), (ca 26, .int), (ca 27, .int), (ca 28, .int), (ca 29, .int)]
theorem xg_0 {ca : Nat → ClassId} {ad : Nat → Nat} {σ : JS} : (xC ca ad σ)[0]? = some (ad 0, .inr (0, xF_0 ad σ)) := rfl
theorem xg_1 {ca : Nat → ClassId} {ad : Nat → Nat} {σ : JS} : (xC ca ad σ)[1]? = some (ad 1, .inr (1, xF_1 ad σ)) := rfl
theorem xg_2 {ca : Nat → ClassId} {ad : Nat → Nat} {σ : JS} : (xC ca ad σ)[2]? = some (ad 2, .inr (2, xF_2 ad σ)) := rfl
theorem xg_3 {ca : Nat → ClassId} {ad : Nat → Nat} {σ : JS} : (xC ca ad σ)[3]? = some (ad 3, .inr (3, xF_3 ad σ)) := rfl
theorem xg_4 {ca : Nat → ClassId} {ad : Nat → Nat} {σ : JS} : (xC ca ad σ)[4]? = some (ad 4, .inr (4, xF_4 ad σ)) := rfl
theorem xg_5 {ca : Nat → ClassId} {ad : Nat → Nat} {σ : JS} : (xC ca ad σ)[5]? = some (ad 5, .inr (5, xF_5 ad σ)) := rfl
theorem xg_6 {ca : Nat → ClassId} {ad : Nat → Nat} {σ : JS} : (xC ca ad σ)[6]? = some (ad 6, .inl (ca 6, 121, .inl (σ 6))) := rfl
theorem xt_6 {ca : Nat → ClassId} : (xT ca)[0]? = some (ca 6, .int) := rfl
theorem xs_6 {ca : Nat → ClassId} {ad : Nat → Nat} {σ : JS} {j : Nat} {v : Int32} : (xC ca ad σ).set 6 (ad 6, .inl (ca 6, 121, .inl (upd (σ 6) j v))) = xC ca ad (jw2 σ 6 j v) := rfl
theorem xa_6 {ca : Nat → ClassId} {ad : Nat → Nat} {σ : JS} {g : Nat → Int32} : (xC ca ad σ).set 6 (ad 6, .inl (ca 6, 121, .inl g)) = xC ca ad (jwA σ 6 g) := rfl
theorem xg_7 {ca : Nat → ClassId} {ad : Nat → Nat} {σ : JS} : (xC ca ad σ)[7]? = some (ad 7, .inl (ca 7, 121, .inl (σ 7))) := rfl
theorem xt_7 {ca : Nat → ClassId} : (xT ca)[1]? = some (ca 7, .int) := rfl
theorem xs_7 {ca : Nat → ClassId} {ad : Nat → Nat} {σ : JS} {j : Nat} {v : Int32} : (xC ca ad σ).set 7 (ad 7, .inl (ca 7, 121, .inl (upd (σ 7) j v))) = xC ca ad (jw2 σ 7 j v) := rfl
theorem xa_7 {ca : Nat → ClassId} {ad : Nat → Nat} {σ : JS} {g : Nat → Int32} : (xC ca ad σ).set 7 (ad 7, .inl (ca 7, 121, .inl g)) = xC ca ad (jwA σ 7 g) := rfl
theorem xg_8 {ca : Nat → ClassId} {ad : Nat → Nat} {σ : JS} : (xC ca ad σ)[8]? = some (ad 8, .inl (ca 8, 121, .inl (σ 8))) := rfl
theorem xt_8 {ca : Nat → ClassId} : (xT ca)[2]? = some (ca 8, .int) := rfl
theorem xs_8 {ca : Nat → ClassId} {ad : Nat → Nat} {σ : JS} {j : Nat} {v : Int32} : (xC ca ad σ).set 8 (ad 8, .inl (ca 8, 121, .inl (upd (σ 8) j v))) = xC ca ad (jw2 σ 8 j v) := rfl
theorem xa_8 {ca : Nat → ClassId} {ad : Nat → Nat} {σ : JS} {g : Nat → Int32} : (xC ca ad σ).set 8 (ad 8, .inl (ca 8, 121, .inl g)) = xC ca ad (jwA σ 8 g) := rfl
theorem xg_9 {ca : Nat → ClassId} {ad : Nat → Nat} {σ : JS} : (xC ca ad σ)[9]? = some (ad 9, .inl (ca 9, 121, .inl (σ 9))) := rfl
theorem xt_9 {ca : Nat → ClassId} : (xT ca)[3]? = some (ca 9, .int) := rfl
theorem xs_9 {ca : Nat → ClassId} {ad : Nat → Nat} {σ : JS} {j : Nat} {v : Int32} : (xC ca ad σ).set 9 (ad 9, .inl (ca 9, 121, .inl (upd (σ 9) j v))) = xC ca ad (jw2 σ 9 j v) := rfl
theorem xa_9 {ca : Nat → ClassId} {ad : Nat → Nat} {σ : JS} {g : Nat → Int32} : (xC ca ad σ).set 9 (ad 9, .inl (ca 9, 121, .inl g)) = xC ca ad (jwA σ 9 g) := rfl
theorem xg_10 {ca : Nat → ClassId} {ad : Nat → Nat} {σ : JS} : (xC ca ad σ)[10]? = some (ad 10, .inl (ca 10, 121, .inl (σ 10))) := rfl
theorem xt_10 {ca : Nat → ClassId} : (xT ca)[4]? = some (ca 10, .int) := rfl
theorem xs_10 {ca : Nat → ClassId} {ad : Nat → Nat} {σ : JS} {j : Nat} {v : Int32} : (xC ca ad σ).set 10 (ad 10, .inl (ca 10, 121, .inl (upd (σ 10) j v))) = xC ca ad (jw2 σ 10 j v) := rfl
theorem xa_10 {ca : Nat → ClassId} {ad : Nat → Nat} {σ : JS} {g : Nat → Int32} : (xC ca ad σ).set 10 (ad 10, .inl (ca 10, 121, .inl g)) = xC ca ad (jwA σ 10 g) := rfl
theorem xg_11 {ca : Nat → ClassId} {ad : Nat → Nat} {σ : JS} : (xC ca ad σ)[11]? = some (ad 11, .inl (ca 11, 121, .inl (σ 11))) := rfl
theorem xt_11 {ca : Nat → ClassId} : (xT ca)[5]? = some (ca 11, .int) := rfl
theorem xs_11 {ca : Nat → ClassId} {ad : Nat → Nat} {σ : JS} {j : Nat} {v : Int32} : (xC ca ad σ).set 11 (ad 11, .inl (ca 11, 121, .inl (upd (σ 11) j v))) = xC ca ad (jw2 σ 11 j v) := rfl
theorem xa_11 {ca : Nat → ClassId} {ad : Nat → Nat} {σ : JS} {g : Nat → Int32} : (xC ca ad σ).set 11 (ad 11, .inl (ca 11, 121, .inl g)) = xC ca ad (jwA σ 11 g) := rfl
theorem xg_12 {ca : Nat → ClassId} {ad : Nat → Nat} {σ : JS} : (xC ca ad σ)[12]? = some (ad 12, .inl (ca 12, 4, .inl (σ 12))) := rfl
theorem xt_12 {ca : Nat → ClassId} : (xT ca)[6]? = some (ca 12, .int) := rfl
theorem xs_12 {ca : Nat → ClassId} {ad : Nat → Nat} {σ : JS} {j : Nat} {v : Int32} : (xC ca ad σ).set 12 (ad 12, .inl (ca 12, 4, .inl (upd (σ 12) j v))) = xC ca ad (jw2 σ 12 j v) := rfl
theorem xa_12 {ca : Nat → ClassId} {ad : Nat → Nat} {σ : JS} {g : Nat → Int32} : (xC ca ad σ).set 12 (ad 12, .inl (ca 12, 4, .inl g)) = xC ca ad (jwA σ 12 g) := rfl
theorem xg_13 {ca : Nat → ClassId} {ad : Nat → Nat} {σ : JS} : (xC ca ad σ)[13]? = some (ad 13, .inl (ca 13, 4, .inl (σ 13))) := rfl
theorem xt_13 {ca : Nat → ClassId} : (xT ca)[7]? = some (ca 13, .int) := rfl
theorem xs_13 {ca : Nat → ClassId} {ad : Nat → Nat} {σ : JS} {j : Nat} {v : Int32} : (xC ca ad σ).set 13 (ad 13, .inl (ca 13, 4, .inl (upd (σ 13) j v))) = xC ca ad (jw2 σ 13 j v) := rfl
theorem xa_13 {ca : Nat → ClassId} {ad : Nat → Nat} {σ : JS} {g : Nat → Int32} : (xC ca ad σ).set 13 (ad 13, .inl (ca 13, 4, .inl g)) = xC ca ad (jwA σ 13 g) := rfl
theorem xg_14 {ca : Nat → ClassId} {ad : Nat → Nat} {σ : JS} : (xC ca ad σ)[14]? = some (ad 14, .inl (ca 14, 4, .inl (σ 14))) := rfl
theorem xt_14 {ca : Nat → ClassId} : (xT ca)[8]? = some (ca 14, .int) := rfl
theorem xs_14 {ca : Nat → ClassId} {ad : Nat → Nat} {σ : JS} {j : Nat} {v : Int32} : (xC ca ad σ).set 14 (ad 14, .inl (ca 14, 4, .inl (upd (σ 14) j v))) = xC ca ad (jw2 σ 14 j v) := rfl
theorem xa_14 {ca : Nat → ClassId} {ad : Nat → Nat} {σ : JS} {g : Nat → Int32} : (xC ca ad σ).set 14 (ad 14, .inl (ca 14, 4, .inl g)) = xC ca ad (jwA σ 14 g) := rfl
theorem xg_15 {ca : Nat → ClassId} {ad : Nat → Nat} {σ : JS} : (xC ca ad σ)[15]? = some (ad 15, .inl (ca 15, 24, .inl (σ 15))) := rfl
theorem xt_15 {ca : Nat → ClassId} : (xT ca)[9]? = some (ca 15, .int) := rfl
theorem xs_15 {ca : Nat → ClassId} {ad : Nat → Nat} {σ : JS} {j : Nat} {v : Int32} : (xC ca ad σ).set 15 (ad 15, .inl (ca 15, 24, .inl (upd (σ 15) j v))) = xC ca ad (jw2 σ 15 j v) := rfl
theorem xa_15 {ca : Nat → ClassId} {ad : Nat → Nat} {σ : JS} {g : Nat → Int32} : (xC ca ad σ).set 15 (ad 15, .inl (ca 15, 24, .inl g)) = xC ca ad (jwA σ 15 g) := rfl
theorem xg_16 {ca : Nat → ClassId} {ad : Nat → Nat} {σ : JS} : (xC ca ad σ)[16]? = some (ad 16, .inl (ca 16, 24, .inl (σ 16))) := rfl
theorem xt_16 {ca : Nat → ClassId} : (xT ca)[10]? = some (ca 16, .int) := rfl
theorem xs_16 {ca : Nat → ClassId} {ad : Nat → Nat} {σ : JS} {j : Nat} {v : Int32} : (xC ca ad σ).set 16 (ad 16, .inl (ca 16, 24, .inl (upd (σ 16) j v))) = xC ca ad (jw2 σ 16 j v) := rfl
theorem xa_16 {ca : Nat → ClassId} {ad : Nat → Nat} {σ : JS} {g : Nat → Int32} : (xC ca ad σ).set 16 (ad 16, .inl (ca 16, 24, .inl g)) = xC ca ad (jwA σ 16 g) := rfl
theorem xg_17 {ca : Nat → ClassId} {ad : Nat → Nat} {σ : JS} : (xC ca ad σ)[17]? = some (ad 17, .inl (ca 17, 24, .inl (σ 17))) := rfl
theorem xt_17 {ca : Nat → ClassId} : (xT ca)[11]? = some (ca 17, .int) := rfl
theorem xs_17 {ca : Nat → ClassId} {ad : Nat → Nat} {σ : JS} {j : Nat} {v : Int32} : (xC ca ad σ).set 17 (ad 17, .inl (ca 17, 24, .inl (upd (σ 17) j v))) = xC ca ad (jw2 σ 17 j v) := rfl
theorem xa_17 {ca : Nat → ClassId} {ad : Nat → Nat} {σ : JS} {g : Nat → Int32} : (xC ca ad σ).set 17 (ad 17, .inl (ca 17, 24, .inl g)) = xC ca ad (jwA σ 17 g) := rfl
theorem xg_18 {ca : Nat → ClassId} {ad : Nat → Nat} {σ : JS} : (xC ca ad σ)[18]? = some (ad 18, .inl (ca 18, 24, .inl (σ 18))) := rfl
theorem xt_18 {ca : Nat → ClassId} : (xT ca)[12]? = some (ca 18, .int) := rfl
theorem xs_18 {ca : Nat → ClassId} {ad : Nat → Nat} {σ : JS} {j : Nat} {v : Int32} : (xC ca ad σ).set 18 (ad 18, .inl (ca 18, 24, .inl (upd (σ 18) j v))) = xC ca ad (jw2 σ 18 j v) := rfl
theorem xa_18 {ca : Nat → ClassId} {ad : Nat → Nat} {σ : JS} {g : Nat → Int32} : (xC ca ad σ).set 18 (ad 18, .inl (ca 18, 24, .inl g)) = xC ca ad (jwA σ 18 g) := rfl
theorem xg_19 {ca : Nat → ClassId} {ad : Nat → Nat} {σ : JS} : (xC ca ad σ)[19]? = some (ad 19, .inl (ca 19, 4, .inl (σ 19))) := rfl
theorem xt_19 {ca : Nat → ClassId} : (xT ca)[13]? = some (ca 19, .boolean) := rfl
theorem xs_19 {ca : Nat → ClassId} {ad : Nat → Nat} {σ : JS} {j : Nat} {v : Int32} : (xC ca ad σ).set 19 (ad 19, .inl (ca 19, 4, .inl (upd (σ 19) j v))) = xC ca ad (jw2 σ 19 j v) := rfl
theorem xa_19 {ca : Nat → ClassId} {ad : Nat → Nat} {σ : JS} {g : Nat → Int32} : (xC ca ad σ).set 19 (ad 19, .inl (ca 19, 4, .inl g)) = xC ca ad (jwA σ 19 g) := rfl
theorem xg_20 {ca : Nat → ClassId} {ad : Nat → Nat} {σ : JS} : (xC ca ad σ)[20]? = some (ad 20, .inl (ca 20, 4, .inl (σ 20))) := rfl
theorem xt_20 {ca : Nat → ClassId} : (xT ca)[14]? = some (ca 20, .int) := rfl
theorem xs_20 {ca : Nat → ClassId} {ad : Nat → Nat} {σ : JS} {j : Nat} {v : Int32} : (xC ca ad σ).set 20 (ad 20, .inl (ca 20, 4, .inl (upd (σ 20) j v))) = xC ca ad (jw2 σ 20 j v) := rfl
theorem xa_20 {ca : Nat → ClassId} {ad : Nat → Nat} {σ : JS} {g : Nat → Int32} : (xC ca ad σ).set 20 (ad 20, .inl (ca 20, 4, .inl g)) = xC ca ad (jwA σ 20 g) := rfl
theorem xg_21 {ca : Nat → ClassId} {ad : Nat → Nat} {σ : JS} : (xC ca ad σ)[21]? = some (ad 21, .inl (ca 21, 4, .inl (σ 21))) := rfl
theorem xt_21 {ca : Nat → ClassId} : (xT ca)[15]? = some (ca 21, .int) := rfl
theorem xs_21 {ca : Nat → ClassId} {ad : Nat → Nat} {σ : JS} {j : Nat} {v : Int32} : (xC ca ad σ).set 21 (ad 21, .inl (ca 21, 4, .inl (upd (σ 21) j v))) = xC ca ad (jw2 σ 21 j v) := rfl
theorem xa_21 {ca : Nat → ClassId} {ad : Nat → Nat} {σ : JS} {g : Nat → Int32} : (xC ca ad σ).set 21 (ad 21, .inl (ca 21, 4, .inl g)) = xC ca ad (jwA σ 21 g) := rfl
theorem xg_22 {ca : Nat → ClassId} {ad : Nat → Nat} {σ : JS} : (xC ca ad σ)[22]? = some (ad 22, .inl (ca 22, 32, .inl (σ 22))) := rfl
theorem xt_22 {ca : Nat → ClassId} : (xT ca)[16]? = some (ca 22, .int) := rfl
theorem xs_22 {ca : Nat → ClassId} {ad : Nat → Nat} {σ : JS} {j : Nat} {v : Int32} : (xC ca ad σ).set 22 (ad 22, .inl (ca 22, 32, .inl (upd (σ 22) j v))) = xC ca ad (jw2 σ 22 j v) := rfl
theorem xa_22 {ca : Nat → ClassId} {ad : Nat → Nat} {σ : JS} {g : Nat → Int32} : (xC ca ad σ).set 22 (ad 22, .inl (ca 22, 32, .inl g)) = xC ca ad (jwA σ 22 g) := rfl
theorem xg_23 {ca : Nat → ClassId} {ad : Nat → Nat} {σ : JS} : (xC ca ad σ)[23]? = some (ad 23, .inl (ca 23, 16, .inl (σ 23))) := rfl
theorem xt_23 {ca : Nat → ClassId} : (xT ca)[17]? = some (ca 23, .int) := rfl
theorem xs_23 {ca : Nat → ClassId} {ad : Nat → Nat} {σ : JS} {j : Nat} {v : Int32} : (xC ca ad σ).set 23 (ad 23, .inl (ca 23, 16, .inl (upd (σ 23) j v))) = xC ca ad (jw2 σ 23 j v) := rfl
theorem xa_23 {ca : Nat → ClassId} {ad : Nat → Nat} {σ : JS} {g : Nat → Int32} : (xC ca ad σ).set 23 (ad 23, .inl (ca 23, 16, .inl g)) = xC ca ad (jwA σ 23 g) := rfl
theorem xg_24 {ca : Nat → ClassId} {ad : Nat → Nat} {σ : JS} : (xC ca ad σ)[24]? = some (ad 24, .inl (ca 24, 24, .inl (σ 24))) := rfl
theorem xt_24 {ca : Nat → ClassId} : (xT ca)[18]? = some (ca 24, .int) := rfl
theorem xs_24 {ca : Nat → ClassId} {ad : Nat → Nat} {σ : JS} {j : Nat} {v : Int32} : (xC ca ad σ).set 24 (ad 24, .inl (ca 24, 24, .inl (upd (σ 24) j v))) = xC ca ad (jw2 σ 24 j v) := rfl
theorem xa_24 {ca : Nat → ClassId} {ad : Nat → Nat} {σ : JS} {g : Nat → Int32} : (xC ca ad σ).set 24 (ad 24, .inl (ca 24, 24, .inl g)) = xC ca ad (jwA σ 24 g) := rfl
theorem xg_25 {ca : Nat → ClassId} {ad : Nat → Nat} {σ : JS} : (xC ca ad σ)[25]? = some (ad 25, .inl (ca 25, 121, .inl (σ 25))) := rfl
theorem xt_25 {ca : Nat → ClassId} : (xT ca)[19]? = some (ca 25, .boolean) := rfl
theorem xs_25 {ca : Nat → ClassId} {ad : Nat → Nat} {σ : JS} {j : Nat} {v : Int32} : (xC ca ad σ).set 25 (ad 25, .inl (ca 25, 121, .inl (upd (σ 25) j v))) = xC ca ad (jw2 σ 25 j v) := rfl
theorem xa_25 {ca : Nat → ClassId} {ad : Nat → Nat} {σ : JS} {g : Nat → Int32} : (xC ca ad σ).set 25 (ad 25, .inl (ca 25, 121, .inl g)) = xC ca ad (jwA σ 25 g) := rfl
theorem xg_26 {ca : Nat → ClassId} {ad : Nat → Nat} {σ : JS} : (xC ca ad σ)[26]? = some (ad 26, .inl (ca 26, 3, .inl (σ 26))) := rfl
theorem xt_26 {ca : Nat → ClassId} : (xT ca)[20]? = some (ca 26, .int) := rfl
theorem xs_26 {ca : Nat → ClassId} {ad : Nat → Nat} {σ : JS} {j : Nat} {v : Int32} : (xC ca ad σ).set 26 (ad 26, .inl (ca 26, 3, .inl (upd (σ 26) j v))) = xC ca ad (jw2 σ 26 j v) := rfl
theorem xa_26 {ca : Nat → ClassId} {ad : Nat → Nat} {σ : JS} {g : Nat → Int32} : (xC ca ad σ).set 26 (ad 26, .inl (ca 26, 3, .inl g)) = xC ca ad (jwA σ 26 g) := rfl
theorem xg_27 {ca : Nat → ClassId} {ad : Nat → Nat} {σ : JS} : (xC ca ad σ)[27]? = some (ad 27, .inl (ca 27, 3, .inl (σ 27))) := rfl
theorem xt_27 {ca : Nat → ClassId} : (xT ca)[21]? = some (ca 27, .int) := rfl
theorem xs_27 {ca : Nat → ClassId} {ad : Nat → Nat} {σ : JS} {j : Nat} {v : Int32} : (xC ca ad σ).set 27 (ad 27, .inl (ca 27, 3, .inl (upd (σ 27) j v))) = xC ca ad (jw2 σ 27 j v) := rfl
theorem xa_27 {ca : Nat → ClassId} {ad : Nat → Nat} {σ : JS} {g : Nat → Int32} : (xC ca ad σ).set 27 (ad 27, .inl (ca 27, 3, .inl g)) = xC ca ad (jwA σ 27 g) := rfl
theorem xg_28 {ca : Nat → ClassId} {ad : Nat → Nat} {σ : JS} : (xC ca ad σ)[28]? = some (ad 28, .inl (ca 28, 3, .inl (σ 28))) := rfl
theorem xt_28 {ca : Nat → ClassId} : (xT ca)[22]? = some (ca 28, .int) := rfl
theorem xs_28 {ca : Nat → ClassId} {ad : Nat → Nat} {σ : JS} {j : Nat} {v : Int32} : (xC ca ad σ).set 28 (ad 28, .inl (ca 28, 3, .inl (upd (σ 28) j v))) = xC ca ad (jw2 σ 28 j v) := rfl
theorem xa_28 {ca : Nat → ClassId} {ad : Nat → Nat} {σ : JS} {g : Nat → Int32} : (xC ca ad σ).set 28 (ad 28, .inl (ca 28, 3, .inl g)) = xC ca ad (jwA σ 28 g) := rfl
theorem xg_29 {ca : Nat → ClassId} {ad : Nat → Nat} {σ : JS} : (xC ca ad σ)[29]? = some (ad 29, .inl (ca 29, 8, .inl (σ 29))) := rfl
theorem xt_29 {ca : Nat → ClassId} : (xT ca)[23]? = some (ca 29, .int) := rfl
theorem xs_29 {ca : Nat → ClassId} {ad : Nat → Nat} {σ : JS} {j : Nat} {v : Int32} : (xC ca ad σ).set 29 (ad 29, .inl (ca 29, 8, .inl (upd (σ 29) j v))) = xC ca ad (jw2 σ 29 j v) := rfl
theorem xa_29 {ca : Nat → ClassId} {ad : Nat → Nat} {σ : JS} {g : Nat → Int32} : (xC ca ad σ).set 29 (ad 29, .inl (ca 29, 8, .inl g)) = xC ca ad (jwA σ 29 g) := rfl
theorem xp_0 {ca : Nat → ClassId} {ad : Nat → Nat} {σ : JS} {v : Int32} : (xC ca ad σ).set 1 (ad 1, .inr (1, (xF_1 ad σ).set 9 (.int v))) = xC ca ad (jw2 σ 100 0 v) := rfl
theorem xp_1 {ca : Nat → ClassId} {ad : Nat → Nat} {σ : JS} {v : Int32} : (xC ca ad σ).set 1 (ad 1, .inr (1, (xF_1 ad σ).set 10 (.int v))) = xC ca ad (jw2 σ 100 1 v) := rfl
theorem xp_2 {ca : Nat → ClassId} {ad : Nat → Nat} {σ : JS} {v : Int32} : (xC ca ad σ).set 2 (ad 2, .inr (2, (xF_2 ad σ).set 4 (.int v))) = xC ca ad (jw2 σ 100 2 v) := rfl
theorem xp_3 {ca : Nat → ClassId} {ad : Nat → Nat} {σ : JS} {v : Int32} : (xC ca ad σ).set 4 (ad 4, .inr (4, (xF_4 ad σ).set 1 (.int v))) = xC ca ad (jw2 σ 100 3 v) := rfl
theorem xp_4 {ca : Nat → ClassId} {ad : Nat → Nat} {σ : JS} {v : Int32} : (xC ca ad σ).set 5 (ad 5, .inr (5, (xF_5 ad σ).set 2 (.int v))) = xC ca ad (jw2 σ 100 4 v) := rfl
theorem xp_5 {ca : Nat → ClassId} {ad : Nat → Nat} {σ : JS} {v : Int32} : (xC ca ad σ).set 5 (ad 5, .inr (5, (xF_5 ad σ).set 3 (.int v))) = xC ca ad (jw2 σ 100 5 v) := rfl
theorem xp_6 {ca : Nat → ClassId} {ad : Nat → Nat} {σ : JS} {v : Int32} : (xC ca ad σ).set 0 (ad 0, .inr (0, (xF_0 ad σ).set 9 (.int v))) = xC ca ad (jw2 σ 100 6 v) := rfl
theorem xp_7 {ca : Nat → ClassId} {ad : Nat → Nat} {σ : JS} {v : Int32} : (xC ca ad σ).set 0 (ad 0, .inr (0, (xF_0 ad σ).set 10 (.int v))) = xC ca ad (jw2 σ 100 7 v) := rfl
theorem xp_8 {ca : Nat → ClassId} {ad : Nat → Nat} {σ : JS} {v : Int32} : (xC ca ad σ).set 0 (ad 0, .inr (0, (xF_0 ad σ).set 11 (.int v))) = xC ca ad (jw2 σ 100 8 v) := rfl
def mF_0 (ad : Nat → Nat) (σ : JS) : List Value := [.int (σ 100 0), .int (σ 100 1), .ref (ad 1), .ref (ad 2), .ref (ad 3), .int (σ 100 2), .int (σ 100 3), .int (σ 100 4), .int (σ 100 5), .ref (ad 4), .ref (ad 5), .ref (ad 6), .ref (ad 7), .ref (ad 8), .ref (ad 9), .ref (ad 10), .int (σ 100 6), .ref (ad 11), .ref (ad 12), .ref (ad 13), .int (σ 100 7), .ref (ad 14), .ref (ad 15), .int (σ 100 8), .int (σ 100 9)]
def mC (ca : Nat → ClassId) (ad : Nat → Nat) (σ : JS) : va_W := [(ad 0, .inr (6, mF_0 ad σ)), (ad 1, .inl (ca 1, 3, .inl (σ 1))), (ad 2, .inl (ca 2, 3, .inl (σ 2))), (ad 3, .inl (ca 3, 3, .inl (σ 3))), (ad 4, .inl (ca 4, 121, .inl (σ 4))), (ad 5, .inl (ca 5, 121, .inl (σ 5))), (ad 6, .inl (ca 6, 121, .inl (σ 6))), (ad 7, .inl (ca 7, 121, .inl (σ 7))), (ad 8, .inl (ca 8, 121, .inl (σ 8))), (ad 9, .inl (ca 9, 121, .inl (σ 9))), (ad 10, .inl (ca 10, 24, .inl (σ 10))), (ad 11, .inl (ca 11, 24, .inl (σ 11))), (ad 12, .inl (ca 12, 4, .inl (σ 12))), (ad 13, .inl (ca 13, 4, .inl (σ 13))), (ad 14, .inl (ca 14, 17, .inl (σ 14))), (ad 15, .inl (ca 15, 122, .inl (σ 15)))]
def mT (ca : Nat → ClassId) : List (ClassId × FieldType) := [(ca 1, .int), (ca 2, .int), (ca 3, .int), (ca 4, .int), (ca 5, .int), (ca 6, .int), (ca 7, .int), (ca 8, .int), (ca 9, .int), (ca 10, .int), (ca 11, .int), (ca 12, .int), (ca 13, .int), (ca 14, .int), (ca 15, .boolean)]
theorem mg_0 {ca : Nat → ClassId} {ad : Nat → Nat} {σ : JS} : (mC ca ad σ)[0]? = some (ad 0, .inr (6, mF_0 ad σ)) := rfl
theorem mg_1 {ca : Nat → ClassId} {ad : Nat → Nat} {σ : JS} : (mC ca ad σ)[1]? = some (ad 1, .inl (ca 1, 3, .inl (σ 1))) := rfl
theorem mt_1 {ca : Nat → ClassId} : (mT ca)[0]? = some (ca 1, .int) := rfl
theorem ms_1 {ca : Nat → ClassId} {ad : Nat → Nat} {σ : JS} {j : Nat} {v : Int32} : (mC ca ad σ).set 1 (ad 1, .inl (ca 1, 3, .inl (upd (σ 1) j v))) = mC ca ad (jw2 σ 1 j v) := rfl
theorem ma_1 {ca : Nat → ClassId} {ad : Nat → Nat} {σ : JS} {g : Nat → Int32} : (mC ca ad σ).set 1 (ad 1, .inl (ca 1, 3, .inl g)) = mC ca ad (jwA σ 1 g) := rfl
theorem mg_2 {ca : Nat → ClassId} {ad : Nat → Nat} {σ : JS} : (mC ca ad σ)[2]? = some (ad 2, .inl (ca 2, 3, .inl (σ 2))) := rfl
theorem mt_2 {ca : Nat → ClassId} : (mT ca)[1]? = some (ca 2, .int) := rfl
theorem ms_2 {ca : Nat → ClassId} {ad : Nat → Nat} {σ : JS} {j : Nat} {v : Int32} : (mC ca ad σ).set 2 (ad 2, .inl (ca 2, 3, .inl (upd (σ 2) j v))) = mC ca ad (jw2 σ 2 j v) := rfl
theorem ma_2 {ca : Nat → ClassId} {ad : Nat → Nat} {σ : JS} {g : Nat → Int32} : (mC ca ad σ).set 2 (ad 2, .inl (ca 2, 3, .inl g)) = mC ca ad (jwA σ 2 g) := rfl
theorem mg_3 {ca : Nat → ClassId} {ad : Nat → Nat} {σ : JS} : (mC ca ad σ)[3]? = some (ad 3, .inl (ca 3, 3, .inl (σ 3))) := rfl
theorem mt_3 {ca : Nat → ClassId} : (mT ca)[2]? = some (ca 3, .int) := rfl
theorem ms_3 {ca : Nat → ClassId} {ad : Nat → Nat} {σ : JS} {j : Nat} {v : Int32} : (mC ca ad σ).set 3 (ad 3, .inl (ca 3, 3, .inl (upd (σ 3) j v))) = mC ca ad (jw2 σ 3 j v) := rfl
theorem ma_3 {ca : Nat → ClassId} {ad : Nat → Nat} {σ : JS} {g : Nat → Int32} : (mC ca ad σ).set 3 (ad 3, .inl (ca 3, 3, .inl g)) = mC ca ad (jwA σ 3 g) := rfl
theorem mg_4 {ca : Nat → ClassId} {ad : Nat → Nat} {σ : JS} : (mC ca ad σ)[4]? = some (ad 4, .inl (ca 4, 121, .inl (σ 4))) := rfl
theorem mt_4 {ca : Nat → ClassId} : (mT ca)[3]? = some (ca 4, .int) := rfl
theorem ms_4 {ca : Nat → ClassId} {ad : Nat → Nat} {σ : JS} {j : Nat} {v : Int32} : (mC ca ad σ).set 4 (ad 4, .inl (ca 4, 121, .inl (upd (σ 4) j v))) = mC ca ad (jw2 σ 4 j v) := rfl
theorem ma_4 {ca : Nat → ClassId} {ad : Nat → Nat} {σ : JS} {g : Nat → Int32} : (mC ca ad σ).set 4 (ad 4, .inl (ca 4, 121, .inl g)) = mC ca ad (jwA σ 4 g) := rfl
theorem mg_5 {ca : Nat → ClassId} {ad : Nat → Nat} {σ : JS} : (mC ca ad σ)[5]? = some (ad 5, .inl (ca 5, 121, .inl (σ 5))) := rfl
theorem mt_5 {ca : Nat → ClassId} : (mT ca)[4]? = some (ca 5, .int) := rfl
theorem ms_5 {ca : Nat → ClassId} {ad : Nat → Nat} {σ : JS} {j : Nat} {v : Int32} : (mC ca ad σ).set 5 (ad 5, .inl (ca 5, 121, .inl (upd (σ 5) j v))) = mC ca ad (jw2 σ 5 j v) := rfl
theorem ma_5 {ca : Nat → ClassId} {ad : Nat → Nat} {σ : JS} {g : Nat → Int32} : (mC ca ad σ).set 5 (ad 5, .inl (ca 5, 121, .inl g)) = mC ca ad (jwA σ 5 g) := rfl
theorem mg_6 {ca : Nat → ClassId} {ad : Nat → Nat} {σ : JS} : (mC ca ad σ)[6]? = some (ad 6, .inl (ca 6, 121, .inl (σ 6))) := rfl
theorem mt_6 {ca : Nat → ClassId} : (mT ca)[5]? = some (ca 6, .int) := rfl
theorem ms_6 {ca : Nat → ClassId} {ad : Nat → Nat} {σ : JS} {j : Nat} {v : Int32} : (mC ca ad σ).set 6 (ad 6, .inl (ca 6, 121, .inl (upd (σ 6) j v))) = mC ca ad (jw2 σ 6 j v) := rfl
theorem ma_6 {ca : Nat → ClassId} {ad : Nat → Nat} {σ : JS} {g : Nat → Int32} : (mC ca ad σ).set 6 (ad 6, .inl (ca 6, 121, .inl g)) = mC ca ad (jwA σ 6 g) := rfl
theorem mg_7 {ca : Nat → ClassId} {ad : Nat → Nat} {σ : JS} : (mC ca ad σ)[7]? = some (ad 7, .inl (ca 7, 121, .inl (σ 7))) := rfl
theorem mt_7 {ca : Nat → ClassId} : (mT ca)[6]? = some (ca 7, .int) := rfl
theorem ms_7 {ca : Nat → ClassId} {ad : Nat → Nat} {σ : JS} {j : Nat} {v : Int32} : (mC ca ad σ).set 7 (ad 7, .inl (ca 7, 121, .inl (upd (σ 7) j v))) = mC ca ad (jw2 σ 7 j v) := rfl
theorem ma_7 {ca : Nat → ClassId} {ad : Nat → Nat} {σ : JS} {g : Nat → Int32} : (mC ca ad σ).set 7 (ad 7, .inl (ca 7, 121, .inl g)) = mC ca ad (jwA σ 7 g) := rfl
theorem mg_8 {ca : Nat → ClassId} {ad : Nat → Nat} {σ : JS} : (mC ca ad σ)[8]? = some (ad 8, .inl (ca 8, 121, .inl (σ 8))) := rfl
theorem mt_8 {ca : Nat → ClassId} : (mT ca)[7]? = some (ca 8, .int) := rfl
theorem ms_8 {ca : Nat → ClassId} {ad : Nat → Nat} {σ : JS} {j : Nat} {v : Int32} : (mC ca ad σ).set 8 (ad 8, .inl (ca 8, 121, .inl (upd (σ 8) j v))) = mC ca ad (jw2 σ 8 j v) := rfl
theorem ma_8 {ca : Nat → ClassId} {ad : Nat → Nat} {σ : JS} {g : Nat → Int32} : (mC ca ad σ).set 8 (ad 8, .inl (ca 8, 121, .inl g)) = mC ca ad (jwA σ 8 g) := rfl
theorem mg_9 {ca : Nat → ClassId} {ad : Nat → Nat} {σ : JS} : (mC ca ad σ)[9]? = some (ad 9, .inl (ca 9, 121, .inl (σ 9))) := rfl
theorem mt_9 {ca : Nat → ClassId} : (mT ca)[8]? = some (ca 9, .int) := rfl
theorem ms_9 {ca : Nat → ClassId} {ad : Nat → Nat} {σ : JS} {j : Nat} {v : Int32} : (mC ca ad σ).set 9 (ad 9, .inl (ca 9, 121, .inl (upd (σ 9) j v))) = mC ca ad (jw2 σ 9 j v) := rfl
theorem ma_9 {ca : Nat → ClassId} {ad : Nat → Nat} {σ : JS} {g : Nat → Int32} : (mC ca ad σ).set 9 (ad 9, .inl (ca 9, 121, .inl g)) = mC ca ad (jwA σ 9 g) := rfl
theorem mg_10 {ca : Nat → ClassId} {ad : Nat → Nat} {σ : JS} : (mC ca ad σ)[10]? = some (ad 10, .inl (ca 10, 24, .inl (σ 10))) := rfl
theorem mt_10 {ca : Nat → ClassId} : (mT ca)[9]? = some (ca 10, .int) := rfl
theorem ms_10 {ca : Nat → ClassId} {ad : Nat → Nat} {σ : JS} {j : Nat} {v : Int32} : (mC ca ad σ).set 10 (ad 10, .inl (ca 10, 24, .inl (upd (σ 10) j v))) = mC ca ad (jw2 σ 10 j v) := rfl
theorem ma_10 {ca : Nat → ClassId} {ad : Nat → Nat} {σ : JS} {g : Nat → Int32} : (mC ca ad σ).set 10 (ad 10, .inl (ca 10, 24, .inl g)) = mC ca ad (jwA σ 10 g) := rfl
theorem mg_11 {ca : Nat → ClassId} {ad : Nat → Nat} {σ : JS} : (mC ca ad σ)[11]? = some (ad 11, .inl (ca 11, 24, .inl (σ 11))) := rfl
theorem mt_11 {ca : Nat → ClassId} : (mT ca)[10]? = some (ca 11, .int) := rfl
theorem ms_11 {ca : Nat → ClassId} {ad : Nat → Nat} {σ : JS} {j : Nat} {v : Int32} : (mC ca ad σ).set 11 (ad 11, .inl (ca 11, 24, .inl (upd (σ 11) j v))) = mC ca ad (jw2 σ 11 j v) := rfl
theorem ma_11 {ca : Nat → ClassId} {ad : Nat → Nat} {σ : JS} {g : Nat → Int32} : (mC ca ad σ).set 11 (ad 11, .inl (ca 11, 24, .inl g)) = mC ca ad (jwA σ 11 g) := rfl
theorem mg_12 {ca : Nat → ClassId} {ad : Nat → Nat} {σ : JS} : (mC ca ad σ)[12]? = some (ad 12, .inl (ca 12, 4, .inl (σ 12))) := rfl
theorem mt_12 {ca : Nat → ClassId} : (mT ca)[11]? = some (ca 12, .int) := rfl
theorem ms_12 {ca : Nat → ClassId} {ad : Nat → Nat} {σ : JS} {j : Nat} {v : Int32} : (mC ca ad σ).set 12 (ad 12, .inl (ca 12, 4, .inl (upd (σ 12) j v))) = mC ca ad (jw2 σ 12 j v) := rfl
theorem ma_12 {ca : Nat → ClassId} {ad : Nat → Nat} {σ : JS} {g : Nat → Int32} : (mC ca ad σ).set 12 (ad 12, .inl (ca 12, 4, .inl g)) = mC ca ad (jwA σ 12 g) := rfl
theorem mg_13 {ca : Nat → ClassId} {ad : Nat → Nat} {σ : JS} : (mC ca ad σ)[13]? = some (ad 13, .inl (ca 13, 4, .inl (σ 13))) := rfl
theorem mt_13 {ca : Nat → ClassId} : (mT ca)[12]? = some (ca 13, .int) := rfl
theorem ms_13 {ca : Nat → ClassId} {ad : Nat → Nat} {σ : JS} {j : Nat} {v : Int32} : (mC ca ad σ).set 13 (ad 13, .inl (ca 13, 4, .inl (upd (σ 13) j v))) = mC ca ad (jw2 σ 13 j v) := rfl
theorem ma_13 {ca : Nat → ClassId} {ad : Nat → Nat} {σ : JS} {g : Nat → Int32} : (mC ca ad σ).set 13 (ad 13, .inl (ca 13, 4, .inl g)) = mC ca ad (jwA σ 13 g) := rfl
theorem mg_14 {ca : Nat → ClassId} {ad : Nat → Nat} {σ : JS} : (mC ca ad σ)[14]? = some (ad 14, .inl (ca 14, 17, .inl (σ 14))) := rfl
theorem mt_14 {ca : Nat → ClassId} : (mT ca)[13]? = some (ca 14, .int) := rfl
theorem ms_14 {ca : Nat → ClassId} {ad : Nat → Nat} {σ : JS} {j : Nat} {v : Int32} : (mC ca ad σ).set 14 (ad 14, .inl (ca 14, 17, .inl (upd (σ 14) j v))) = mC ca ad (jw2 σ 14 j v) := rfl
theorem ma_14 {ca : Nat → ClassId} {ad : Nat → Nat} {σ : JS} {g : Nat → Int32} : (mC ca ad σ).set 14 (ad 14, .inl (ca 14, 17, .inl g)) = mC ca ad (jwA σ 14 g) := rfl
theorem mg_15 {ca : Nat → ClassId} {ad : Nat → Nat} {σ : JS} : (mC ca ad σ)[15]? = some (ad 15, .inl (ca 15, 122, .inl (σ 15))) := rfl
theorem mt_15 {ca : Nat → ClassId} : (mT ca)[14]? = some (ca 15, .boolean) := rfl
theorem ms_15 {ca : Nat → ClassId} {ad : Nat → Nat} {σ : JS} {j : Nat} {v : Int32} : (mC ca ad σ).set 15 (ad 15, .inl (ca 15, 122, .inl (upd (σ 15) j v))) = mC ca ad (jw2 σ 15 j v) := rfl
theorem ma_15 {ca : Nat → ClassId} {ad : Nat → Nat} {σ : JS} {g : Nat → Int32} : (mC ca ad σ).set 15 (ad 15, .inl (ca 15, 122, .inl g)) = mC ca ad (jwA σ 15 g) := rfl
theorem mp_0 {ca : Nat → ClassId} {ad : Nat → Nat} {σ : JS} {v : Int32} : (mC ca ad σ).set 0 (ad 0, .inr (6, (mF_0 ad σ).set 0 (.int v))) = mC ca ad (jw2 σ 100 0 v) := rfl
theorem mp_1 {ca : Nat → ClassId} {ad : Nat → Nat} {σ : JS} {v : Int32} : (mC ca ad σ).set 0 (ad 0, .inr (6, (mF_0 ad σ).set 1 (.int v))) = mC ca ad (jw2 σ 100 1 v) := rfl
theorem mp_2 {ca : Nat → ClassId} {ad : Nat → Nat} {σ : JS} {v : Int32} : (mC ca ad σ).set 0 (ad 0, .inr (6, (mF_0 ad σ).set 5 (.int v))) = mC ca ad (jw2 σ 100 2 v) := rfl
theorem mp_3 {ca : Nat → ClassId} {ad : Nat → Nat} {σ : JS} {v : Int32} : (mC ca ad σ).set 0 (ad 0, .inr (6, (mF_0 ad σ).set 6 (.int v))) = mC ca ad (jw2 σ 100 3 v) := rfl
theorem mp_4 {ca : Nat → ClassId} {ad : Nat → Nat} {σ : JS} {v : Int32} : (mC ca ad σ).set 0 (ad 0, .inr (6, (mF_0 ad σ).set 7 (.int v))) = mC ca ad (jw2 σ 100 4 v) := rfl
theorem mp_5 {ca : Nat → ClassId} {ad : Nat → Nat} {σ : JS} {v : Int32} : (mC ca ad σ).set 0 (ad 0, .inr (6, (mF_0 ad σ).set 8 (.int v))) = mC ca ad (jw2 σ 100 5 v) := rfl
theorem mp_6 {ca : Nat → ClassId} {ad : Nat → Nat} {σ : JS} {v : Int32} : (mC ca ad σ).set 0 (ad 0, .inr (6, (mF_0 ad σ).set 16 (.int v))) = mC ca ad (jw2 σ 100 6 v) := rfl
theorem mp_7 {ca : Nat → ClassId} {ad : Nat → Nat} {σ : JS} {v : Int32} : (mC ca ad σ).set 0 (ad 0, .inr (6, (mF_0 ad σ).set 20 (.int v))) = mC ca ad (jw2 σ 100 7 v) := rfl
theorem mp_8 {ca : Nat → ClassId} {ad : Nat → Nat} {σ : JS} {v : Int32} : (mC ca ad σ).set 0 (ad 0, .inr (6, (mF_0 ad σ).set 23 (.int v))) = mC ca ad (jw2 σ 100 8 v) := rfl
theorem mp_9 {ca : Nat → ClassId} {ad : Nat → Nat} {σ : JS} {v : Int32} : (mC ca ad σ).set 0 (ad 0, .inr (6, (mF_0 ad σ).set 24 (.int v))) = mC ca ad (jw2 σ 100 9 v) := rfl
end
section
theorem k_1 : (Jvm.Cond.initialized "JournalHouse") ∈ jall := jall_t 1 (by decide +kernel) (by decide +kernel)
theorem k_108 : (Jvm.Cond.fieldLink "JournalHouse$Copies" (9 : Nat) "JournalHouse$Copies" "filled" "[Z") ∈ jall := jall_t 108 (by decide +kernel) (by decide +kernel)
theorem k_110 : (Jvm.Cond.fieldLink "JournalHouse$Copies" (15 : Nat) "JournalHouse$Copies" "files" "[I") ∈ jall := jall_t 110 (by decide +kernel) (by decide +kernel)
theorem k_112 : (Jvm.Cond.fieldLink "JournalHouse$Copies" (19 : Nat) "JournalHouse$Copies" "numbers" "[I") ∈ jall := jall_t 112 (by decide +kernel) (by decide +kernel)
theorem k_114 : (Jvm.Cond.fieldLink "JournalHouse$Copies" (22 : Nat) "JournalHouse$Copies" "records" "[I") ∈ jall := jall_t 114 (by decide +kernel) (by decide +kernel)
theorem k_13 : (Jvm.Cond.initialized "java/lang/Math") ∈ jall := jall_t 13 (by decide +kernel) (by decide +kernel)
theorem k_132 : (Jvm.Cond.fieldLink "JournalHouse$Letters" (9 : Nat) "JournalHouse$Letters" "entries" "[I") ∈ jall := jall_t 132 (by decide +kernel) (by decide +kernel)
theorem k_134 : (Jvm.Cond.fieldLink "JournalHouse$Letters" (15 : Nat) "JournalHouse$Letters" "count" "I") ∈ jall := jall_t 134 (by decide +kernel) (by decide +kernel)
theorem k_14 : (Jvm.Cond.initialized "java/lang/System") ∈ jall := jall_t 14 (by decide +kernel) (by decide +kernel)
theorem k_147 : (Jvm.Cond.fieldLink "JournalHouse$RemoteHouse" (9 : Nat) "JournalHouse$RemoteHouse" "records" "[I") ∈ jall := jall_t 147 (by decide +kernel) (by decide +kernel)
theorem k_148 : (Jvm.Cond.fieldLink "JournalHouse" (248 : Nat) "JournalHouse$RemoteHouse" "records" "[I") ∈ jall := jall_t 148 (by decide +kernel) (by decide +kernel)
theorem k_149 : (Jvm.Cond.fieldLink "JournalHouse$RemoteHouse" (15 : Nat) "JournalHouse$RemoteHouse" "received" "[Z") ∈ jall := jall_t 149 (by decide +kernel) (by decide +kernel)
theorem k_150 : (Jvm.Cond.fieldLink "JournalHouse$RemoteHouse" (23 : Nat) "JournalHouse$RemoteHouse" "applied" "I") ∈ jall := jall_t 150 (by decide +kernel) (by decide +kernel)
theorem k_152 : (Jvm.Cond.fieldLink "JournalHouse$RemoteHouse" (19 : Nat) "JournalHouse$RemoteHouse" "takenOver" "Z") ∈ jall := jall_t 152 (by decide +kernel) (by decide +kernel)
theorem k_162 : (Jvm.Cond.fieldLink "JournalHouse" (12 : Nat) "JournalHouse" "journal" "LJournalHouse$Journal;") ∈ jall := jall_t 162 (by decide +kernel) (by decide +kernel)
theorem k_163 : (Jvm.Cond.fieldLink "JournalHouse" (19 : Nat) "JournalHouse" "store" "LJournalHouse$Store;") ∈ jall := jall_t 163 (by decide +kernel) (by decide +kernel)
theorem k_166 : (Jvm.Cond.fieldLink "JournalHouse" (40 : Nat) "JournalHouse" "remoteHouse" "LJournalHouse$RemoteHouse;") ∈ jall := jall_t 166 (by decide +kernel) (by decide +kernel)
theorem k_167 : (Jvm.Cond.fieldLink "JournalHouse" (44 : Nat) "JournalHouse" "sizes" "[I") ∈ jall := jall_t 167 (by decide +kernel) (by decide +kernel)
theorem k_168 : (Jvm.Cond.fieldLink "JournalHouse" (48 : Nat) "JournalHouse" "numbers" "[I") ∈ jall := jall_t 168 (by decide +kernel) (by decide +kernel)
theorem k_169 : (Jvm.Cond.fieldLink "JournalHouse" (51 : Nat) "JournalHouse" "limits" "[I") ∈ jall := jall_t 169 (by decide +kernel) (by decide +kernel)
theorem k_170 : (Jvm.Cond.fieldLink "JournalHouse" (54 : Nat) "JournalHouse" "wanted" "[I") ∈ jall := jall_t 170 (by decide +kernel) (by decide +kernel)
theorem k_171 : (Jvm.Cond.fieldLink "JournalHouse" (64 : Nat) "JournalHouse" "fileCount" "I") ∈ jall := jall_t 171 (by decide +kernel) (by decide +kernel)
theorem k_173 : (Jvm.Cond.fieldLink "JournalHouse" (57 : Nat) "JournalHouse" "up" "Z") ∈ jall := jall_t 173 (by decide +kernel) (by decide +kernel)
theorem k_2 : (Jvm.Cond.initialized "JournalHouse$Journal") ∈ jall := jall_t 2 (by decide +kernel) (by decide +kernel)
theorem k_203 : (Jvm.Cond.methodLink "JournalHouse" (75 : Nat) ({ cls := "JournalHouse", name := "isRecord", desc := "(II)Z" } : Jvm.MethodName)) ∈ jall := jall_t 203 (by decide +kernel) (by decide +kernel)
theorem k_205 : (Jvm.Cond.instanceMethod ({ cls := "JournalHouse", name := "isRecord", desc := "(II)Z" } : Jvm.MethodName)) ∈ jall := jall_t 205 (by decide +kernel) (by decide +kernel)
set_option maxRecDepth 100000 in
theorem k_206 : (Jvm.Cond.code ({ cls := "JournalHouse", name := "isRecord", desc := "(II)Z" } : Jvm.MethodName) prog_1_method_24_code (3 : Nat) (Option.some Jvm.ClassFile.FieldType.boolean)) ∈ jall := jall_t 206 rfl rfl
theorem k_207 : (Jvm.Cond.methodLink "JournalHouse" (115 : Nat) ({ cls := "JournalHouse", name := "isFile", desc := "(I)Z" } : Jvm.MethodName)) ∈ jall := jall_t 207 (by decide +kernel) (by decide +kernel)
theorem k_209 : (Jvm.Cond.instanceMethod ({ cls := "JournalHouse", name := "isFile", desc := "(I)Z" } : Jvm.MethodName)) ∈ jall := jall_t 209 (by decide +kernel) (by decide +kernel)
set_option maxRecDepth 100000 in
theorem k_210 : (Jvm.Cond.code ({ cls := "JournalHouse", name := "isFile", desc := "(I)Z" } : Jvm.MethodName) prog_1_method_23_code (2 : Nat) (Option.some Jvm.ClassFile.FieldType.boolean)) ∈ jall := jall_t 210 rfl rfl
theorem k_211 : (Jvm.Cond.methodLink "JournalHouse" (79 : Nat) ({ cls := "JournalHouse", name := "cellOf", desc := "(II)I" } : Jvm.MethodName)) ∈ jall := jall_t 211 (by decide +kernel) (by decide +kernel)
theorem k_212 : (Jvm.Cond.static ({ cls := "JournalHouse", name := "cellOf", desc := "(II)I" } : Jvm.MethodName)) ∈ jall := jall_t 212 (by decide +kernel) (by decide +kernel)
set_option maxRecDepth 100000 in
theorem k_213 : (Jvm.Cond.code ({ cls := "JournalHouse", name := "cellOf", desc := "(II)I" } : Jvm.MethodName) prog_1_method_26_code (2 : Nat) (Option.some Jvm.ClassFile.FieldType.int)) ∈ jall := jall_t 213 rfl rfl
theorem k_214 : (Jvm.Cond.constantLong "JournalHouse" (99 : Nat) (1099511627776 : Int64)) ∈ jall := jall_t 214 (by decide +kernel) (by decide +kernel)
theorem k_231 : (Jvm.Cond.methodLink "JournalHouse" (174 : Nat) ({ cls := "JournalHouse$Journal", name := "isBoundary", desc := "(II)Z" } : Jvm.MethodName)) ∈ jall := jall_t 231 (by decide +kernel) (by decide +kernel)
theorem k_232 : (Jvm.Cond.instanceMethod ({ cls := "JournalHouse$Journal", name := "isBoundary", desc := "(II)Z" } : Jvm.MethodName)) ∈ jall := jall_t 232 (by decide +kernel) (by decide +kernel)
theorem k_233 : (Jvm.Cond.selects "JournalHouse$Journal" ({ cls := "JournalHouse$Journal", name := "isBoundary", desc := "(II)Z" } : Jvm.MethodName) ({ cls := "JournalHouse$Journal", name := "isBoundary", desc := "(II)Z" } : Jvm.MethodName)) ∈ jall := jall_t 233 (by decide +kernel) (by decide +kernel)
set_option maxRecDepth 100000 in
theorem k_234 : (Jvm.Cond.code ({ cls := "JournalHouse$Journal", name := "isBoundary", desc := "(II)Z" } : Jvm.MethodName) prog_3_method_7_code (3 : Nat) (Option.some Jvm.ClassFile.FieldType.boolean)) ∈ jall := jall_t 234 rfl rfl
theorem k_239 : (Jvm.Cond.methodLink "JournalHouse" (177 : Nat) ({ cls := "JournalHouse$Journal", name := "isKept", desc := "(I)Z" } : Jvm.MethodName)) ∈ jall := jall_t 239 (by decide +kernel) (by decide +kernel)
theorem k_240 : (Jvm.Cond.instanceMethod ({ cls := "JournalHouse$Journal", name := "isKept", desc := "(I)Z" } : Jvm.MethodName)) ∈ jall := jall_t 240 (by decide +kernel) (by decide +kernel)
theorem k_241 : (Jvm.Cond.selects "JournalHouse$Journal" ({ cls := "JournalHouse$Journal", name := "isKept", desc := "(I)Z" } : Jvm.MethodName) ({ cls := "JournalHouse$Journal", name := "isKept", desc := "(I)Z" } : Jvm.MethodName)) ∈ jall := jall_t 241 (by decide +kernel) (by decide +kernel)
set_option maxRecDepth 100000 in
theorem k_242 : (Jvm.Cond.code ({ cls := "JournalHouse$Journal", name := "isKept", desc := "(I)Z" } : Jvm.MethodName) prog_3_method_16_code (2 : Nat) (Option.some Jvm.ClassFile.FieldType.boolean)) ∈ jall := jall_t 242 rfl rfl
theorem k_243 : (Jvm.Cond.methodLink "JournalHouse$Journal" (54 : Nat) ({ cls := "JournalHouse$Journal", name := "startOfOldest", desc := "()I" } : Jvm.MethodName)) ∈ jall := jall_t 243 (by decide +kernel) (by decide +kernel)
theorem k_244 : (Jvm.Cond.instanceMethod ({ cls := "JournalHouse$Journal", name := "startOfOldest", desc := "()I" } : Jvm.MethodName)) ∈ jall := jall_t 244 (by decide +kernel) (by decide +kernel)
theorem k_245 : (Jvm.Cond.selects "JournalHouse$Journal" ({ cls := "JournalHouse$Journal", name := "startOfOldest", desc := "()I" } : Jvm.MethodName) ({ cls := "JournalHouse$Journal", name := "startOfOldest", desc := "()I" } : Jvm.MethodName)) ∈ jall := jall_t 245 (by decide +kernel) (by decide +kernel)
set_option maxRecDepth 100000 in
theorem k_246 : (Jvm.Cond.code ({ cls := "JournalHouse$Journal", name := "startOfOldest", desc := "()I" } : Jvm.MethodName) prog_3_method_14_code (1 : Nat) (Option.some Jvm.ClassFile.FieldType.int)) ∈ jall := jall_t 246 rfl rfl
theorem k_247 : (Jvm.Cond.methodLink "JournalHouse" (186 : Nat) ({ cls := "JournalHouse", name := "partOfChange", desc := "(II)J" } : Jvm.MethodName)) ∈ jall := jall_t 247 (by decide +kernel) (by decide +kernel)
theorem k_249 : (Jvm.Cond.instanceMethod ({ cls := "JournalHouse", name := "partOfChange", desc := "(II)J" } : Jvm.MethodName)) ∈ jall := jall_t 249 (by decide +kernel) (by decide +kernel)
set_option maxRecDepth 100000 in
theorem k_250 : (Jvm.Cond.code ({ cls := "JournalHouse", name := "partOfChange", desc := "(II)J" } : Jvm.MethodName) prog_1_method_29_code (3 : Nat) (Option.some Jvm.ClassFile.FieldType.long)) ∈ jall := jall_t 250 rfl rfl
theorem k_251 : (Jvm.Cond.methodLink "JournalHouse" (249 : Nat) ({ cls := "JournalHouse", name := "fileOf", desc := "(I)I" } : Jvm.MethodName)) ∈ jall := jall_t 251 (by decide +kernel) (by decide +kernel)
theorem k_252 : (Jvm.Cond.static ({ cls := "JournalHouse", name := "fileOf", desc := "(I)I" } : Jvm.MethodName)) ∈ jall := jall_t 252 (by decide +kernel) (by decide +kernel)
set_option maxRecDepth 100000 in
theorem k_253 : (Jvm.Cond.code ({ cls := "JournalHouse", name := "fileOf", desc := "(I)I" } : Jvm.MethodName) prog_1_method_27_code (1 : Nat) (Option.some Jvm.ClassFile.FieldType.int)) ∈ jall := jall_t 253 rfl rfl
theorem k_254 : (Jvm.Cond.methodLink "JournalHouse" (158 : Nat) ({ cls := "JournalHouse", name := "recordOf", desc := "(I)I" } : Jvm.MethodName)) ∈ jall := jall_t 254 (by decide +kernel) (by decide +kernel)
theorem k_255 : (Jvm.Cond.static ({ cls := "JournalHouse", name := "recordOf", desc := "(I)I" } : Jvm.MethodName)) ∈ jall := jall_t 255 (by decide +kernel) (by decide +kernel)
set_option maxRecDepth 100000 in
theorem k_256 : (Jvm.Cond.code ({ cls := "JournalHouse", name := "recordOf", desc := "(I)I" } : Jvm.MethodName) prog_1_method_28_code (1 : Nat) (Option.some Jvm.ClassFile.FieldType.int)) ∈ jall := jall_t 256 rfl rfl
theorem k_29 : (Jvm.Cond.fieldLink "JournalHouse$Journal" (9 : Nat) "JournalHouse$Journal" "kinds" "[I") ∈ jall := jall_t 29 (by decide +kernel) (by decide +kernel)
theorem k_3 : (Jvm.Cond.initialized "JournalHouse$Store") ∈ jall := jall_t 3 (by decide +kernel) (by decide +kernel)
theorem k_30 : (Jvm.Cond.fieldLink "JournalHouse$RemoteHouse" (27 : Nat) "JournalHouse$Journal" "kinds" "[I") ∈ jall := jall_t 30 (by decide +kernel) (by decide +kernel)
theorem k_31 : (Jvm.Cond.fieldLink "JournalHouse" (180 : Nat) "JournalHouse$Journal" "kinds" "[I") ∈ jall := jall_t 31 (by decide +kernel) (by decide +kernel)
theorem k_32 : (Jvm.Cond.fieldLink "JournalHouse$Journal" (15 : Nat) "JournalHouse$Journal" "jobs" "[I") ∈ jall := jall_t 32 (by decide +kernel) (by decide +kernel)
theorem k_34 : (Jvm.Cond.fieldLink "JournalHouse" (183 : Nat) "JournalHouse$Journal" "jobs" "[I") ∈ jall := jall_t 34 (by decide +kernel) (by decide +kernel)
theorem k_35 : (Jvm.Cond.fieldLink "JournalHouse$Journal" (18 : Nat) "JournalHouse$Journal" "cells" "[I") ∈ jall := jall_t 35 (by decide +kernel) (by decide +kernel)
theorem k_36 : (Jvm.Cond.fieldLink "JournalHouse$RemoteHouse" (32 : Nat) "JournalHouse$Journal" "cells" "[I") ∈ jall := jall_t 36 (by decide +kernel) (by decide +kernel)
theorem k_37 : (Jvm.Cond.fieldLink "JournalHouse" (155 : Nat) "JournalHouse$Journal" "cells" "[I") ∈ jall := jall_t 37 (by decide +kernel) (by decide +kernel)
theorem k_370 : (Jvm.Cond.methodLink "JournalHouse$Journal" (58 : Nat) ({ cls := "JournalHouse$Journal", name := "isInOpenCycle", desc := "(I)Z" } : Jvm.MethodName)) ∈ jall := jall_t 370 (by decide +kernel) (by decide +kernel)
theorem k_372 : (Jvm.Cond.instanceMethod ({ cls := "JournalHouse$Journal", name := "isInOpenCycle", desc := "(I)Z" } : Jvm.MethodName)) ∈ jall := jall_t 372 (by decide +kernel) (by decide +kernel)
set_option maxRecDepth 100000 in
theorem k_373 : (Jvm.Cond.code ({ cls := "JournalHouse$Journal", name := "isInOpenCycle", desc := "(I)Z" } : Jvm.MethodName) prog_3_method_9_code (3 : Nat) (Option.some Jvm.ClassFile.FieldType.boolean)) ∈ jall := jall_t 373 rfl rfl
theorem k_374 : (Jvm.Cond.methodLink "JournalHouse$Journal" (62 : Nat) ({ cls := "JournalHouse$Journal", name := "isCycleOpen", desc := "(I)Z" } : Jvm.MethodName)) ∈ jall := jall_t 374 (by decide +kernel) (by decide +kernel)
theorem k_375 : (Jvm.Cond.instanceMethod ({ cls := "JournalHouse$Journal", name := "isCycleOpen", desc := "(I)Z" } : Jvm.MethodName)) ∈ jall := jall_t 375 (by decide +kernel) (by decide +kernel)
theorem k_376 : (Jvm.Cond.selects "JournalHouse$Journal" ({ cls := "JournalHouse$Journal", name := "isCycleOpen", desc := "(I)Z" } : Jvm.MethodName) ({ cls := "JournalHouse$Journal", name := "isCycleOpen", desc := "(I)Z" } : Jvm.MethodName)) ∈ jall := jall_t 376 (by decide +kernel) (by decide +kernel)
set_option maxRecDepth 100000 in
theorem k_377 : (Jvm.Cond.code ({ cls := "JournalHouse$Journal", name := "isCycleOpen", desc := "(I)Z" } : Jvm.MethodName) prog_3_method_5_code (2 : Nat) (Option.some Jvm.ClassFile.FieldType.boolean)) ∈ jall := jall_t 377 rfl rfl
theorem k_38 : (Jvm.Cond.fieldLink "JournalHouse$Journal" (21 : Nat) "JournalHouse$Journal" "befores" "[I") ∈ jall := jall_t 38 (by decide +kernel) (by decide +kernel)
theorem k_382 : (Jvm.Cond.methodLink "JournalHouse$Journal" (65 : Nat) ({ cls := "JournalHouse$Journal", name := "room", desc := "()I" } : Jvm.MethodName)) ∈ jall := jall_t 382 (by decide +kernel) (by decide +kernel)
theorem k_384 : (Jvm.Cond.instanceMethod ({ cls := "JournalHouse$Journal", name := "room", desc := "()I" } : Jvm.MethodName)) ∈ jall := jall_t 384 (by decide +kernel) (by decide +kernel)
set_option maxRecDepth 100000 in
theorem k_385 : (Jvm.Cond.code ({ cls := "JournalHouse$Journal", name := "room", desc := "()I" } : Jvm.MethodName) prog_3_method_12_code (1 : Nat) (Option.some Jvm.ClassFile.FieldType.int)) ∈ jall := jall_t 385 rfl rfl
theorem k_386 : (Jvm.Cond.methodLink "JournalHouse$Journal" (74 : Nat) ({ cls := "java/lang/Math", name := "min", desc := "(II)I" } : Jvm.MethodName)) ∈ jall := jall_t 386 (by decide +kernel) (by decide +kernel)
theorem k_387 : (Jvm.Cond.static ({ cls := "java/lang/Math", name := "min", desc := "(II)I" } : Jvm.MethodName)) ∈ jall := jall_t 387 (by decide +kernel) (by decide +kernel)
set_option maxRecDepth 100000 in
theorem k_388 : (Jvm.Cond.code ({ cls := "java/lang/Math", name := "min", desc := "(II)I" } : Jvm.MethodName) prog_12_method_69_code (2 : Nat) (Option.some Jvm.ClassFile.FieldType.int)) ∈ jall := jall_t 388 rfl rfl
theorem k_389 : (Jvm.Cond.methodLink "JournalHouse$Journal" (68 : Nat) ({ cls := "JournalHouse$Journal", name := "reserve", desc := "()I" } : Jvm.MethodName)) ∈ jall := jall_t 389 (by decide +kernel) (by decide +kernel)
theorem k_391 : (Jvm.Cond.instanceMethod ({ cls := "JournalHouse$Journal", name := "reserve", desc := "()I" } : Jvm.MethodName)) ∈ jall := jall_t 391 (by decide +kernel) (by decide +kernel)
set_option maxRecDepth 100000 in
theorem k_392 : (Jvm.Cond.code ({ cls := "JournalHouse$Journal", name := "reserve", desc := "()I" } : Jvm.MethodName) prog_3_method_13_code (3 : Nat) (Option.some Jvm.ClassFile.FieldType.int)) ∈ jall := jall_t 392 rfl rfl
theorem k_393 : (Jvm.Cond.methodLink "JournalHouse" (89 : Nat) ({ cls := "JournalHouse", name := "writeChange", desc := "(III)V" } : Jvm.MethodName)) ∈ jall := jall_t 393 (by decide +kernel) (by decide +kernel)
theorem k_395 : (Jvm.Cond.instanceMethod ({ cls := "JournalHouse", name := "writeChange", desc := "(III)V" } : Jvm.MethodName)) ∈ jall := jall_t 395 (by decide +kernel) (by decide +kernel)
set_option maxRecDepth 100000 in
theorem k_396 : (Jvm.Cond.code ({ cls := "JournalHouse", name := "writeChange", desc := "(III)V" } : Jvm.MethodName) prog_1_method_30_code (4 : Nat) (Option.none : Option Jvm.ClassFile.FieldType)) ∈ jall := jall_t 396 rfl rfl
theorem k_397 : (Jvm.Cond.methodLink "JournalHouse" (252 : Nat) ({ cls := "JournalHouse$Journal", name := "addChange", desc := "(IIII)V" } : Jvm.MethodName)) ∈ jall := jall_t 397 (by decide +kernel) (by decide +kernel)
theorem k_398 : (Jvm.Cond.instanceMethod ({ cls := "JournalHouse$Journal", name := "addChange", desc := "(IIII)V" } : Jvm.MethodName)) ∈ jall := jall_t 398 (by decide +kernel) (by decide +kernel)
theorem k_399 : (Jvm.Cond.selects "JournalHouse$Journal" ({ cls := "JournalHouse$Journal", name := "addChange", desc := "(IIII)V" } : Jvm.MethodName) ({ cls := "JournalHouse$Journal", name := "addChange", desc := "(IIII)V" } : Jvm.MethodName)) ∈ jall := jall_t 399 (by decide +kernel) (by decide +kernel)
theorem k_40 : (Jvm.Cond.fieldLink "JournalHouse" (171 : Nat) "JournalHouse$Journal" "befores" "[I") ∈ jall := jall_t 40 (by decide +kernel) (by decide +kernel)
set_option maxRecDepth 100000 in
theorem k_400 : (Jvm.Cond.code ({ cls := "JournalHouse$Journal", name := "addChange", desc := "(IIII)V" } : Jvm.MethodName) prog_3_method_2_code (5 : Nat) (Option.none : Option Jvm.ClassFile.FieldType)) ∈ jall := jall_t 400 rfl rfl
theorem k_402 : (Jvm.Cond.methodLink "JournalHouse$Journal" (47 : Nat) ({ cls := "JournalHouse$Journal", name := "noteOpenFiles", desc := "()V" } : Jvm.MethodName)) ∈ jall := jall_t 402 (by decide +kernel) (by decide +kernel)
theorem k_404 : (Jvm.Cond.instanceMethod ({ cls := "JournalHouse$Journal", name := "noteOpenFiles", desc := "()V" } : Jvm.MethodName)) ∈ jall := jall_t 404 (by decide +kernel) (by decide +kernel)
set_option maxRecDepth 100000 in
theorem k_405 : (Jvm.Cond.code ({ cls := "JournalHouse$Journal", name := "noteOpenFiles", desc := "()V" } : Jvm.MethodName) prog_3_method_4_code (3 : Nat) (Option.none : Option Jvm.ClassFile.FieldType)) ∈ jall := jall_t 405 rfl rfl
theorem k_406 : (Jvm.Cond.methodLink "JournalHouse" (256 : Nat) ({ cls := "JournalHouse$Store", name := "write", desc := "(II)V" } : Jvm.MethodName)) ∈ jall := jall_t 406 (by decide +kernel) (by decide +kernel)
theorem k_407 : (Jvm.Cond.instanceMethod ({ cls := "JournalHouse$Store", name := "write", desc := "(II)V" } : Jvm.MethodName)) ∈ jall := jall_t 407 (by decide +kernel) (by decide +kernel)
theorem k_408 : (Jvm.Cond.selects "JournalHouse$Store" ({ cls := "JournalHouse$Store", name := "write", desc := "(II)V" } : Jvm.MethodName) ({ cls := "JournalHouse$Store", name := "write", desc := "(II)V" } : Jvm.MethodName)) ∈ jall := jall_t 408 (by decide +kernel) (by decide +kernel)
set_option maxRecDepth 100000 in
theorem k_409 : (Jvm.Cond.code ({ cls := "JournalHouse$Store", name := "write", desc := "(II)V" } : Jvm.MethodName) prog_6_method_2_code (3 : Nat) (Option.none : Option Jvm.ClassFile.FieldType)) ∈ jall := jall_t 409 rfl rfl
theorem k_41 : (Jvm.Cond.fieldLink "JournalHouse$Journal" (24 : Nat) "JournalHouse$Journal" "afters" "[I") ∈ jall := jall_t 41 (by decide +kernel) (by decide +kernel)
theorem k_410 : (Jvm.Cond.methodLink "JournalHouse$Store" (28 : Nat) ({ cls := "JournalHouse$Store", name := "landOldest", desc := "(I)V" } : Jvm.MethodName)) ∈ jall := jall_t 410 (by decide +kernel) (by decide +kernel)
theorem k_411 : (Jvm.Cond.instanceMethod ({ cls := "JournalHouse$Store", name := "landOldest", desc := "(I)V" } : Jvm.MethodName)) ∈ jall := jall_t 411 (by decide +kernel) (by decide +kernel)
theorem k_412 : (Jvm.Cond.selects "JournalHouse$Store" ({ cls := "JournalHouse$Store", name := "landOldest", desc := "(I)V" } : Jvm.MethodName) ({ cls := "JournalHouse$Store", name := "landOldest", desc := "(I)V" } : Jvm.MethodName)) ∈ jall := jall_t 412 (by decide +kernel) (by decide +kernel)
set_option maxRecDepth 100000 in
theorem k_413 : (Jvm.Cond.code ({ cls := "JournalHouse$Store", name := "landOldest", desc := "(I)V" } : Jvm.MethodName) prog_6_method_3_code (3 : Nat) (Option.none : Option Jvm.ClassFile.FieldType)) ∈ jall := jall_t 413 rfl rfl
theorem k_414 : (Jvm.Cond.methodLink "JournalHouse$Store" (32 : Nat) ({ cls := "java/lang/System", name := "arraycopy", desc := "(Ljava/lang/Object;ILjava/lang/Object;II)V" } : Jvm.MethodName)) ∈ jall := jall_t 414 (by decide +kernel) (by decide +kernel)
theorem k_415 : (Jvm.Cond.static ({ cls := "java/lang/System", name := "arraycopy", desc := "(Ljava/lang/Object;ILjava/lang/Object;II)V" } : Jvm.MethodName)) ∈ jall := jall_t 415 (by decide +kernel) (by decide +kernel)
theorem k_416 : (Jvm.Cond.native ({ cls := "java/lang/System", name := "arraycopy", desc := "(Ljava/lang/Object;ILjava/lang/Object;II)V" } : Jvm.MethodName)) ∈ jall := jall_t 416 (by decide +kernel) (by decide +kernel)
theorem k_42 : (Jvm.Cond.fieldLink "JournalHouse$RemoteHouse" (35 : Nat) "JournalHouse$Journal" "afters" "[I") ∈ jall := jall_t 42 (by decide +kernel) (by decide +kernel)
theorem k_425 : (Jvm.Cond.methodLink "JournalHouse" (107 : Nat) ({ cls := "JournalHouse$Journal", name := "addEnd", desc := "(II)V" } : Jvm.MethodName)) ∈ jall := jall_t 425 (by decide +kernel) (by decide +kernel)
theorem k_426 : (Jvm.Cond.instanceMethod ({ cls := "JournalHouse$Journal", name := "addEnd", desc := "(II)V" } : Jvm.MethodName)) ∈ jall := jall_t 426 (by decide +kernel) (by decide +kernel)
theorem k_427 : (Jvm.Cond.selects "JournalHouse$Journal" ({ cls := "JournalHouse$Journal", name := "addEnd", desc := "(II)V" } : Jvm.MethodName) ({ cls := "JournalHouse$Journal", name := "addEnd", desc := "(II)V" } : Jvm.MethodName)) ∈ jall := jall_t 427 (by decide +kernel) (by decide +kernel)
set_option maxRecDepth 100000 in
theorem k_428 : (Jvm.Cond.code ({ cls := "JournalHouse$Journal", name := "addEnd", desc := "(II)V" } : Jvm.MethodName) prog_3_method_3_code (3 : Nat) (Option.none : Option Jvm.ClassFile.FieldType)) ∈ jall := jall_t 428 rfl rfl
theorem k_43 : (Jvm.Cond.fieldLink "JournalHouse" (162 : Nat) "JournalHouse$Journal" "afters" "[I") ∈ jall := jall_t 43 (by decide +kernel) (by decide +kernel)
theorem k_44 : (Jvm.Cond.fieldLink "JournalHouse$Journal" (27 : Nat) "JournalHouse$Journal" "openFiles" "[I") ∈ jall := jall_t 44 (by decide +kernel) (by decide +kernel)
theorem k_444 : (Jvm.Cond.methodLink "JournalHouse" (121 : Nat) ({ cls := "JournalHouse$Journal", name := "isCycleOn", desc := "(I)Z" } : Jvm.MethodName)) ∈ jall := jall_t 444 (by decide +kernel) (by decide +kernel)
theorem k_445 : (Jvm.Cond.instanceMethod ({ cls := "JournalHouse$Journal", name := "isCycleOn", desc := "(I)Z" } : Jvm.MethodName)) ∈ jall := jall_t 445 (by decide +kernel) (by decide +kernel)
theorem k_446 : (Jvm.Cond.selects "JournalHouse$Journal" ({ cls := "JournalHouse$Journal", name := "isCycleOn", desc := "(I)Z" } : Jvm.MethodName) ({ cls := "JournalHouse$Journal", name := "isCycleOn", desc := "(I)Z" } : Jvm.MethodName)) ∈ jall := jall_t 446 (by decide +kernel) (by decide +kernel)
set_option maxRecDepth 100000 in
theorem k_447 : (Jvm.Cond.code ({ cls := "JournalHouse$Journal", name := "isCycleOn", desc := "(I)Z" } : Jvm.MethodName) prog_3_method_6_code (2 : Nat) (Option.some Jvm.ClassFile.FieldType.boolean)) ∈ jall := jall_t 447 rfl rfl
theorem k_448 : (Jvm.Cond.methodLink "JournalHouse$Journal" (50 : Nat) ({ cls := "JournalHouse$Journal", name := "isBoundary", desc := "(II)Z" } : Jvm.MethodName)) ∈ jall := jall_t 448 (by decide +kernel) (by decide +kernel)
theorem k_45 : (Jvm.Cond.fieldLink "JournalHouse$Journal" (30 : Nat) "JournalHouse$Journal" "began" "[I") ∈ jall := jall_t 45 (by decide +kernel) (by decide +kernel)
theorem k_454 : (Jvm.Cond.methodLink "JournalHouse$Copies" (29 : Nat) ({ cls := "java/lang/System", name := "arraycopy", desc := "(Ljava/lang/Object;ILjava/lang/Object;II)V" } : Jvm.MethodName)) ∈ jall := jall_t 454 (by decide +kernel) (by decide +kernel)
theorem k_46 : (Jvm.Cond.fieldLink "JournalHouse" (259 : Nat) "JournalHouse$Journal" "began" "[I") ∈ jall := jall_t 46 (by decide +kernel) (by decide +kernel)
theorem k_462 : (Jvm.Cond.methodLink "JournalHouse" (136 : Nat) ({ cls := "java/lang/System", name := "arraycopy", desc := "(Ljava/lang/Object;ILjava/lang/Object;II)V" } : Jvm.MethodName)) ∈ jall := jall_t 462 (by decide +kernel) (by decide +kernel)
theorem k_47 : (Jvm.Cond.fieldLink "JournalHouse$Journal" (33 : Nat) "JournalHouse$Journal" "changeCounts" "[I") ∈ jall := jall_t 47 (by decide +kernel) (by decide +kernel)
theorem k_48 : (Jvm.Cond.fieldLink "JournalHouse$Journal" (36 : Nat) "JournalHouse$Journal" "cycleFiles" "[I") ∈ jall := jall_t 48 (by decide +kernel) (by decide +kernel)
theorem k_486 : (Jvm.Cond.methodLink "JournalHouse" (262 : Nat) ({ cls := "JournalHouse$Journal", name := "keepsChangesOf", desc := "(III)Z" } : Jvm.MethodName)) ∈ jall := jall_t 486 (by decide +kernel) (by decide +kernel)
theorem k_487 : (Jvm.Cond.instanceMethod ({ cls := "JournalHouse$Journal", name := "keepsChangesOf", desc := "(III)Z" } : Jvm.MethodName)) ∈ jall := jall_t 487 (by decide +kernel) (by decide +kernel)
theorem k_488 : (Jvm.Cond.selects "JournalHouse$Journal" ({ cls := "JournalHouse$Journal", name := "keepsChangesOf", desc := "(III)Z" } : Jvm.MethodName) ({ cls := "JournalHouse$Journal", name := "keepsChangesOf", desc := "(III)Z" } : Jvm.MethodName)) ∈ jall := jall_t 488 (by decide +kernel) (by decide +kernel)
set_option maxRecDepth 100000 in
theorem k_489 : (Jvm.Cond.code ({ cls := "JournalHouse$Journal", name := "keepsChangesOf", desc := "(III)Z" } : Jvm.MethodName) prog_3_method_19_code (5 : Nat) (Option.some Jvm.ClassFile.FieldType.boolean)) ∈ jall := jall_t 489 rfl rfl
theorem k_49 : (Jvm.Cond.fieldLink "JournalHouse$Journal" (39 : Nat) "JournalHouse$Journal" "newest" "I") ∈ jall := jall_t 49 (by decide +kernel) (by decide +kernel)
theorem k_490 : (Jvm.Cond.methodLink "JournalHouse$Journal" (83 : Nat) ({ cls := "JournalHouse$Journal", name := "isChangeOf", desc := "(II)Z" } : Jvm.MethodName)) ∈ jall := jall_t 490 (by decide +kernel) (by decide +kernel)
theorem k_491 : (Jvm.Cond.instanceMethod ({ cls := "JournalHouse$Journal", name := "isChangeOf", desc := "(II)Z" } : Jvm.MethodName)) ∈ jall := jall_t 491 (by decide +kernel) (by decide +kernel)
theorem k_492 : (Jvm.Cond.selects "JournalHouse$Journal" ({ cls := "JournalHouse$Journal", name := "isChangeOf", desc := "(II)Z" } : Jvm.MethodName) ({ cls := "JournalHouse$Journal", name := "isChangeOf", desc := "(II)Z" } : Jvm.MethodName)) ∈ jall := jall_t 492 (by decide +kernel) (by decide +kernel)
set_option maxRecDepth 100000 in
theorem k_493 : (Jvm.Cond.code ({ cls := "JournalHouse$Journal", name := "isChangeOf", desc := "(II)Z" } : Jvm.MethodName) prog_3_method_18_code (3 : Nat) (Option.some Jvm.ClassFile.FieldType.boolean)) ∈ jall := jall_t 493 rfl rfl
theorem k_494 : (Jvm.Cond.methodLink "JournalHouse$Journal" (86 : Nat) ({ cls := "JournalHouse$Journal", name := "isKept", desc := "(I)Z" } : Jvm.MethodName)) ∈ jall := jall_t 494 (by decide +kernel) (by decide +kernel)
theorem k_50 : (Jvm.Cond.fieldLink "JournalHouse" (93 : Nat) "JournalHouse$Journal" "newest" "I") ∈ jall := jall_t 50 (by decide +kernel) (by decide +kernel)
theorem k_51 : (Jvm.Cond.fieldLink "JournalHouse$Journal" (71 : Nat) "JournalHouse$Journal" "dropped" "I") ∈ jall := jall_t 51 (by decide +kernel) (by decide +kernel)
theorem k_511 : (Jvm.Cond.methodLink "JournalHouse" (168 : Nat) ({ cls := "JournalHouse", name := "numberToRemoveFrom", desc := "(I)I" } : Jvm.MethodName)) ∈ jall := jall_t 511 (by decide +kernel) (by decide +kernel)
theorem k_513 : (Jvm.Cond.instanceMethod ({ cls := "JournalHouse", name := "numberToRemoveFrom", desc := "(I)I" } : Jvm.MethodName)) ∈ jall := jall_t 513 (by decide +kernel) (by decide +kernel)
set_option maxRecDepth 100000 in
theorem k_514 : (Jvm.Cond.code ({ cls := "JournalHouse", name := "numberToRemoveFrom", desc := "(I)I" } : Jvm.MethodName) prog_1_method_34_code (2 : Nat) (Option.some Jvm.ClassFile.FieldType.int)) ∈ jall := jall_t 514 rfl rfl
theorem k_526 : (Jvm.Cond.methodLink "JournalHouse$Journal" (80 : Nat) ({ cls := "JournalHouse$Journal", name := "endOfOldest", desc := "()I" } : Jvm.MethodName)) ∈ jall := jall_t 526 (by decide +kernel) (by decide +kernel)
theorem k_527 : (Jvm.Cond.instanceMethod ({ cls := "JournalHouse$Journal", name := "endOfOldest", desc := "()I" } : Jvm.MethodName)) ∈ jall := jall_t 527 (by decide +kernel) (by decide +kernel)
theorem k_528 : (Jvm.Cond.selects "JournalHouse$Journal" ({ cls := "JournalHouse$Journal", name := "endOfOldest", desc := "()I" } : Jvm.MethodName) ({ cls := "JournalHouse$Journal", name := "endOfOldest", desc := "()I" } : Jvm.MethodName)) ∈ jall := jall_t 528 (by decide +kernel) (by decide +kernel)
set_option maxRecDepth 100000 in
theorem k_529 : (Jvm.Cond.code ({ cls := "JournalHouse$Journal", name := "endOfOldest", desc := "()I" } : Jvm.MethodName) prog_3_method_15_code (1 : Nat) (Option.some Jvm.ClassFile.FieldType.int)) ∈ jall := jall_t 529 rfl rfl
theorem k_574 : (Jvm.Cond.methodLink "JournalHouse$Letters" (19 : Nat) ({ cls := "java/lang/System", name := "arraycopy", desc := "(Ljava/lang/Object;ILjava/lang/Object;II)V" } : Jvm.MethodName)) ∈ jall := jall_t 574 (by decide +kernel) (by decide +kernel)
theorem k_596 : (Jvm.Cond.fieldLink "JournalHouseModel" (56 : Nat) "JournalHouseModel" "thrown" "I") ∈ jall := jall_t 596 (by decide +kernel) (by decide +kernel)
theorem k_597 : (Jvm.Cond.fieldLink "JournalHouseModel" (60 : Nat) "JournalHouseModel" "files" "I") ∈ jall := jall_t 597 (by decide +kernel) (by decide +kernel)
theorem k_598 : (Jvm.Cond.fieldLink "JournalHouseModel" (7 : Nat) "JournalHouseModel" "size" "[I") ∈ jall := jall_t 598 (by decide +kernel) (by decide +kernel)
theorem k_599 : (Jvm.Cond.fieldLink "JournalHouseModel" (13 : Nat) "JournalHouseModel" "shows" "[I") ∈ jall := jall_t 599 (by decide +kernel) (by decide +kernel)
theorem k_600 : (Jvm.Cond.fieldLink "JournalHouseModel" (16 : Nat) "JournalHouseModel" "limit" "[I") ∈ jall := jall_t 600 (by decide +kernel) (by decide +kernel)
theorem k_601 : (Jvm.Cond.fieldLink "JournalHouseModel" (74 : Nat) "JournalHouseModel" "last" "I") ∈ jall := jall_t 601 (by decide +kernel) (by decide +kernel)
theorem k_602 : (Jvm.Cond.fieldLink "JournalHouseModel" (71 : Nat) "JournalHouseModel" "dropped" "I") ∈ jall := jall_t 602 (by decide +kernel) (by decide +kernel)
theorem k_603 : (Jvm.Cond.fieldLink "JournalHouseModel" (142 : Nat) "JournalHouseModel" "known" "I") ∈ jall := jall_t 603 (by decide +kernel) (by decide +kernel)
theorem k_604 : (Jvm.Cond.fieldLink "JournalHouseModel" (103 : Nat) "JournalHouseModel" "down" "Z") ∈ jall := jall_t 604 (by decide +kernel) (by decide +kernel)
theorem k_605 : (Jvm.Cond.fieldLink "JournalHouseModel" (19 : Nat) "JournalHouseModel" "kind" "[I") ∈ jall := jall_t 605 (by decide +kernel) (by decide +kernel)
theorem k_606 : (Jvm.Cond.fieldLink "JournalHouseModel" (22 : Nat) "JournalHouseModel" "job" "[I") ∈ jall := jall_t 606 (by decide +kernel) (by decide +kernel)
theorem k_607 : (Jvm.Cond.fieldLink "JournalHouseModel" (25 : Nat) "JournalHouseModel" "file" "[I") ∈ jall := jall_t 607 (by decide +kernel) (by decide +kernel)
theorem k_608 : (Jvm.Cond.fieldLink "JournalHouseModel" (28 : Nat) "JournalHouseModel" "spot" "[I") ∈ jall := jall_t 608 (by decide +kernel) (by decide +kernel)
theorem k_609 : (Jvm.Cond.fieldLink "JournalHouseModel" (31 : Nat) "JournalHouseModel" "before" "[I") ∈ jall := jall_t 609 (by decide +kernel) (by decide +kernel)
theorem k_610 : (Jvm.Cond.fieldLink "JournalHouseModel" (34 : Nat) "JournalHouseModel" "after" "[I") ∈ jall := jall_t 610 (by decide +kernel) (by decide +kernel)
theorem k_611 : (Jvm.Cond.fieldLink "JournalHouseModel" (37 : Nat) "JournalHouseModel" "landed" "[I") ∈ jall := jall_t 611 (by decide +kernel) (by decide +kernel)
theorem k_612 : (Jvm.Cond.fieldLink "JournalHouseModel" (89 : Nat) "JournalHouseModel" "waits" "I") ∈ jall := jall_t 612 (by decide +kernel) (by decide +kernel)
theorem k_613 : (Jvm.Cond.fieldLink "JournalHouseModel" (40 : Nat) "JournalHouseModel" "waiting" "[I") ∈ jall := jall_t 613 (by decide +kernel) (by decide +kernel)
theorem k_614 : (Jvm.Cond.fieldLink "JournalHouseModel" (43 : Nat) "JournalHouseModel" "copyFile" "[I") ∈ jall := jall_t 614 (by decide +kernel) (by decide +kernel)
theorem k_615 : (Jvm.Cond.fieldLink "JournalHouseModel" (46 : Nat) "JournalHouseModel" "copyNumber" "[I") ∈ jall := jall_t 615 (by decide +kernel) (by decide +kernel)
theorem k_616 : (Jvm.Cond.fieldLink "JournalHouseModel" (145 : Nat) "JournalHouseModel" "letters" "I") ∈ jall := jall_t 616 (by decide +kernel) (by decide +kernel)
theorem k_617 : (Jvm.Cond.fieldLink "JournalHouseModel" (49 : Nat) "JournalHouseModel" "link" "[I") ∈ jall := jall_t 617 (by decide +kernel) (by decide +kernel)
theorem k_618 : (Jvm.Cond.fieldLink "JournalHouseModel" (52 : Nat) "JournalHouseModel" "came" "[Z") ∈ jall := jall_t 618 (by decide +kernel) (by decide +kernel)
theorem k_619 : (Jvm.Cond.fieldLink "JournalHouseModel" (151 : Nat) "JournalHouseModel" "applied" "I") ∈ jall := jall_t 619 (by decide +kernel) (by decide +kernel)
theorem k_620 : (Jvm.Cond.fieldLink "JournalHouseModel" (148 : Nat) "JournalHouseModel" "taken" "Z") ∈ jall := jall_t 620 (by decide +kernel) (by decide +kernel)
theorem k_680 : (Jvm.Cond.methodLink "JournalHouseModel" (63 : Nat) ({ cls := "JournalHouseModel", name := "within", desc := "(III)Z" } : Jvm.MethodName)) ∈ jall := jall_t 680 (by decide +kernel) (by decide +kernel)
theorem k_681 : (Jvm.Cond.static ({ cls := "JournalHouseModel", name := "within", desc := "(III)Z" } : Jvm.MethodName)) ∈ jall := jall_t 681 (by decide +kernel) (by decide +kernel)
set_option maxRecDepth 100000 in
theorem k_682 : (Jvm.Cond.code ({ cls := "JournalHouseModel", name := "within", desc := "(III)Z" } : Jvm.MethodName) prog_8_method_4_code (3 : Nat) (Option.some Jvm.ClassFile.FieldType.boolean)) ∈ jall := jall_t 682 rfl rfl
theorem k_687 : (Jvm.Cond.methodLink "JournalHouseModel" (107 : Nat) ({ cls := "JournalHouseModel", name := "isRecord", desc := "(II)Z" } : Jvm.MethodName)) ∈ jall := jall_t 687 (by decide +kernel) (by decide +kernel)
theorem k_689 : (Jvm.Cond.instanceMethod ({ cls := "JournalHouseModel", name := "isRecord", desc := "(II)Z" } : Jvm.MethodName)) ∈ jall := jall_t 689 (by decide +kernel) (by decide +kernel)
set_option maxRecDepth 100000 in
theorem k_690 : (Jvm.Cond.code ({ cls := "JournalHouseModel", name := "isRecord", desc := "(II)Z" } : Jvm.MethodName) prog_8_method_6_code (3 : Nat) (Option.some Jvm.ClassFile.FieldType.boolean)) ∈ jall := jall_t 690 rfl rfl
theorem k_691 : (Jvm.Cond.methodLink "JournalHouseModel" (67 : Nat) ({ cls := "JournalHouseModel", name := "isFile", desc := "(I)Z" } : Jvm.MethodName)) ∈ jall := jall_t 691 (by decide +kernel) (by decide +kernel)
theorem k_693 : (Jvm.Cond.instanceMethod ({ cls := "JournalHouseModel", name := "isFile", desc := "(I)Z" } : Jvm.MethodName)) ∈ jall := jall_t 693 (by decide +kernel) (by decide +kernel)
set_option maxRecDepth 100000 in
theorem k_694 : (Jvm.Cond.code ({ cls := "JournalHouseModel", name := "isFile", desc := "(I)Z" } : Jvm.MethodName) prog_8_method_5_code (2 : Nat) (Option.some Jvm.ClassFile.FieldType.boolean)) ∈ jall := jall_t 694 rfl rfl
theorem k_695 : (Jvm.Cond.methodLink "JournalHouseModel" (111 : Nat) ({ cls := "JournalHouseModel", name := "reserve", desc := "()I" } : Jvm.MethodName)) ∈ jall := jall_t 695 (by decide +kernel) (by decide +kernel)
theorem k_697 : (Jvm.Cond.instanceMethod ({ cls := "JournalHouseModel", name := "reserve", desc := "()I" } : Jvm.MethodName)) ∈ jall := jall_t 697 (by decide +kernel) (by decide +kernel)
set_option maxRecDepth 100000 in
theorem k_698 : (Jvm.Cond.code ({ cls := "JournalHouseModel", name := "reserve", desc := "()I" } : Jvm.MethodName) prog_8_method_12_code (4 : Nat) (Option.some Jvm.ClassFile.FieldType.int)) ∈ jall := jall_t 698 rfl rfl
theorem k_699 : (Jvm.Cond.methodLink "JournalHouseModel" (81 : Nat) ({ cls := "JournalHouseModel", name := "changesOf", desc := "(I)I" } : Jvm.MethodName)) ∈ jall := jall_t 699 (by decide +kernel) (by decide +kernel)
theorem k_7 : (Jvm.Cond.initialized "JournalHouseModel") ∈ jall := jall_t 7 (by decide +kernel) (by decide +kernel)
theorem k_701 : (Jvm.Cond.instanceMethod ({ cls := "JournalHouseModel", name := "changesOf", desc := "(I)I" } : Jvm.MethodName)) ∈ jall := jall_t 701 (by decide +kernel) (by decide +kernel)
set_option maxRecDepth 100000 in
theorem k_702 : (Jvm.Cond.code ({ cls := "JournalHouseModel", name := "changesOf", desc := "(I)I" } : Jvm.MethodName) prog_8_method_11_code (5 : Nat) (Option.some Jvm.ClassFile.FieldType.int)) ∈ jall := jall_t 702 rfl rfl
theorem k_703 : (Jvm.Cond.methodLink "JournalHouseModel" (77 : Nat) ({ cls := "JournalHouseModel", name := "cycleAt", desc := "(II)I" } : Jvm.MethodName)) ∈ jall := jall_t 703 (by decide +kernel) (by decide +kernel)
theorem k_705 : (Jvm.Cond.instanceMethod ({ cls := "JournalHouseModel", name := "cycleAt", desc := "(II)I" } : Jvm.MethodName)) ∈ jall := jall_t 705 (by decide +kernel) (by decide +kernel)
set_option maxRecDepth 100000 in
theorem k_706 : (Jvm.Cond.code ({ cls := "JournalHouseModel", name := "cycleAt", desc := "(II)I" } : Jvm.MethodName) prog_8_method_9_code (5 : Nat) (Option.some Jvm.ClassFile.FieldType.int)) ∈ jall := jall_t 706 rfl rfl
theorem k_707 : (Jvm.Cond.methodLink "JournalHouseModel" (115 : Nat) ({ cls := "JournalHouseModel", name := "isLocked", desc := "(III)Z" } : Jvm.MethodName)) ∈ jall := jall_t 707 (by decide +kernel) (by decide +kernel)
theorem k_709 : (Jvm.Cond.instanceMethod ({ cls := "JournalHouseModel", name := "isLocked", desc := "(III)Z" } : Jvm.MethodName)) ∈ jall := jall_t 709 (by decide +kernel) (by decide +kernel)
set_option maxRecDepth 100000 in
theorem k_710 : (Jvm.Cond.code ({ cls := "JournalHouseModel", name := "isLocked", desc := "(III)Z" } : Jvm.MethodName) prog_8_method_19_code (8 : Nat) (Option.some Jvm.ClassFile.FieldType.boolean)) ∈ jall := jall_t 710 rfl rfl
theorem k_711 : (Jvm.Cond.methodLink "JournalHouseModel" (118 : Nat) ({ cls := "JournalHouseModel", name := "room", desc := "()I" } : Jvm.MethodName)) ∈ jall := jall_t 711 (by decide +kernel) (by decide +kernel)
theorem k_713 : (Jvm.Cond.instanceMethod ({ cls := "JournalHouseModel", name := "room", desc := "()I" } : Jvm.MethodName)) ∈ jall := jall_t 713 (by decide +kernel) (by decide +kernel)
set_option maxRecDepth 100000 in
theorem k_714 : (Jvm.Cond.code ({ cls := "JournalHouseModel", name := "room", desc := "()I" } : Jvm.MethodName) prog_8_method_13_code (2 : Nat) (Option.some Jvm.ClassFile.FieldType.int)) ∈ jall := jall_t 714 rfl rfl
theorem k_715 : (Jvm.Cond.methodLink "JournalHouseModel" (121 : Nat) ({ cls := "JournalHouseModel", name := "refuse", desc := "(I)I" } : Jvm.MethodName)) ∈ jall := jall_t 715 (by decide +kernel) (by decide +kernel)
theorem k_717 : (Jvm.Cond.instanceMethod ({ cls := "JournalHouseModel", name := "refuse", desc := "(I)I" } : Jvm.MethodName)) ∈ jall := jall_t 717 (by decide +kernel) (by decide +kernel)
set_option maxRecDepth 100000 in
theorem k_718 : (Jvm.Cond.code ({ cls := "JournalHouseModel", name := "refuse", desc := "(I)I" } : Jvm.MethodName) prog_8_method_3_code (2 : Nat) (Option.some Jvm.ClassFile.FieldType.int)) ∈ jall := jall_t 718 rfl rfl
theorem k_719 : (Jvm.Cond.methodLink "JournalHouseModel" (99 : Nat) ({ cls := "JournalHouseModel", name := "put", desc := "(IIII)V" } : Jvm.MethodName)) ∈ jall := jall_t 719 (by decide +kernel) (by decide +kernel)
theorem k_721 : (Jvm.Cond.instanceMethod ({ cls := "JournalHouseModel", name := "put", desc := "(IIII)V" } : Jvm.MethodName)) ∈ jall := jall_t 721 (by decide +kernel) (by decide +kernel)
set_option maxRecDepth 100000 in
theorem k_722 : (Jvm.Cond.code ({ cls := "JournalHouseModel", name := "put", desc := "(IIII)V" } : Jvm.MethodName) prog_8_method_16_code (5 : Nat) (Option.none : Option Jvm.ClassFile.FieldType)) ∈ jall := jall_t 722 rfl rfl
theorem k_723 : (Jvm.Cond.methodLink "JournalHouseModel" (92 : Nat) ({ cls := "JournalHouseModel", name := "note", desc := "(IIIII)V" } : Jvm.MethodName)) ∈ jall := jall_t 723 (by decide +kernel) (by decide +kernel)
theorem k_725 : (Jvm.Cond.instanceMethod ({ cls := "JournalHouseModel", name := "note", desc := "(IIIII)V" } : Jvm.MethodName)) ∈ jall := jall_t 725 (by decide +kernel) (by decide +kernel)
set_option maxRecDepth 100000 in
theorem k_726 : (Jvm.Cond.code ({ cls := "JournalHouseModel", name := "note", desc := "(IIIII)V" } : Jvm.MethodName) prog_8_method_14_code (7 : Nat) (Option.none : Option Jvm.ClassFile.FieldType)) ∈ jall := jall_t 726 rfl rfl
theorem k_727 : (Jvm.Cond.methodLink "JournalHouseModel" (85 : Nat) ({ cls := "JournalHouseModel", name := "valueAt", desc := "(III)I" } : Jvm.MethodName)) ∈ jall := jall_t 727 (by decide +kernel) (by decide +kernel)
theorem k_729 : (Jvm.Cond.instanceMethod ({ cls := "JournalHouseModel", name := "valueAt", desc := "(III)I" } : Jvm.MethodName)) ∈ jall := jall_t 729 (by decide +kernel) (by decide +kernel)
set_option maxRecDepth 100000 in
theorem k_730 : (Jvm.Cond.code ({ cls := "JournalHouseModel", name := "valueAt", desc := "(III)I" } : Jvm.MethodName) prog_8_method_8_code (5 : Nat) (Option.some Jvm.ClassFile.FieldType.int)) ∈ jall := jall_t 730 rfl rfl
theorem k_731 : (Jvm.Cond.methodLink "JournalHouseModel" (96 : Nat) ({ cls := "JournalHouseModel", name := "landFirst", desc := "()V" } : Jvm.MethodName)) ∈ jall := jall_t 731 (by decide +kernel) (by decide +kernel)
theorem k_733 : (Jvm.Cond.instanceMethod ({ cls := "JournalHouseModel", name := "landFirst", desc := "()V" } : Jvm.MethodName)) ∈ jall := jall_t 733 (by decide +kernel) (by decide +kernel)
set_option maxRecDepth 100000 in
theorem k_734 : (Jvm.Cond.code ({ cls := "JournalHouseModel", name := "landFirst", desc := "()V" } : Jvm.MethodName) prog_8_method_15_code (3 : Nat) (Option.none : Option Jvm.ClassFile.FieldType)) ∈ jall := jall_t 734 rfl rfl
theorem k_739 : (Jvm.Cond.constantLong "JournalHouseModel" (124 : Nat) (1099511627776 : Int64)) ∈ jall := jall_t 739 (by decide +kernel) (by decide +kernel)
theorem k_748 : (Jvm.Cond.methodLink "JournalHouseModel" (126 : Nat) ({ cls := "JournalHouseModel", name := "undo", desc := "(I)V" } : Jvm.MethodName)) ∈ jall := jall_t 748 (by decide +kernel) (by decide +kernel)
theorem k_750 : (Jvm.Cond.instanceMethod ({ cls := "JournalHouseModel", name := "undo", desc := "(I)V" } : Jvm.MethodName)) ∈ jall := jall_t 750 (by decide +kernel) (by decide +kernel)
set_option maxRecDepth 100000 in
theorem k_751 : (Jvm.Cond.code ({ cls := "JournalHouseModel", name := "undo", desc := "(I)V" } : Jvm.MethodName) prog_8_method_17_code (4 : Nat) (Option.none : Option Jvm.ClassFile.FieldType)) ∈ jall := jall_t 751 rfl rfl
theorem k_756 : (Jvm.Cond.methodLink "JournalHouseModel" (130 : Nat) ({ cls := "JournalHouseModel", name := "isOn", desc := "(II)Z" } : Jvm.MethodName)) ∈ jall := jall_t 756 (by decide +kernel) (by decide +kernel)
theorem k_758 : (Jvm.Cond.instanceMethod ({ cls := "JournalHouseModel", name := "isOn", desc := "(II)Z" } : Jvm.MethodName)) ∈ jall := jall_t 758 (by decide +kernel) (by decide +kernel)
set_option maxRecDepth 100000 in
theorem k_759 : (Jvm.Cond.code ({ cls := "JournalHouseModel", name := "isOn", desc := "(II)Z" } : Jvm.MethodName) prog_8_method_10_code (7 : Nat) (Option.some Jvm.ClassFile.FieldType.boolean)) ∈ jall := jall_t 759 rfl rfl
theorem k_764 : (Jvm.Cond.methodLink "JournalHouseModel" (133 : Nat) ({ cls := "JournalHouseModel", name := "become", desc := "(III)I" } : Jvm.MethodName)) ∈ jall := jall_t 764 (by decide +kernel) (by decide +kernel)
theorem k_766 : (Jvm.Cond.instanceMethod ({ cls := "JournalHouseModel", name := "become", desc := "(III)I" } : Jvm.MethodName)) ∈ jall := jall_t 766 (by decide +kernel) (by decide +kernel)
set_option maxRecDepth 100000 in
theorem k_767 : (Jvm.Cond.code ({ cls := "JournalHouseModel", name := "become", desc := "(III)I" } : Jvm.MethodName) prog_8_method_25_code (8 : Nat) (Option.some Jvm.ClassFile.FieldType.int)) ∈ jall := jall_t 767 rfl rfl
theorem k_772 : (Jvm.Cond.methodLink "JournalHouseModel" (136 : Nat) ({ cls := "JournalHouseModel", name := "lacks", desc := "(III)Z" } : Jvm.MethodName)) ∈ jall := jall_t 772 (by decide +kernel) (by decide +kernel)
theorem k_774 : (Jvm.Cond.instanceMethod ({ cls := "JournalHouseModel", name := "lacks", desc := "(III)Z" } : Jvm.MethodName)) ∈ jall := jall_t 774 (by decide +kernel) (by decide +kernel)
set_option maxRecDepth 100000 in
theorem k_775 : (Jvm.Cond.code ({ cls := "JournalHouseModel", name := "lacks", desc := "(III)Z" } : Jvm.MethodName) prog_8_method_27_code (6 : Nat) (Option.some Jvm.ClassFile.FieldType.boolean)) ∈ jall := jall_t 775 rfl rfl
theorem k_796 : (Jvm.Cond.methodLink "JournalHouseModel" (139 : Nat) ({ cls := "JournalHouseModel", name := "isKept", desc := "(I)Z" } : Jvm.MethodName)) ∈ jall := jall_t 796 (by decide +kernel) (by decide +kernel)
theorem k_798 : (Jvm.Cond.instanceMethod ({ cls := "JournalHouseModel", name := "isKept", desc := "(I)Z" } : Jvm.MethodName)) ∈ jall := jall_t 798 (by decide +kernel) (by decide +kernel)
set_option maxRecDepth 100000 in
theorem k_799 : (Jvm.Cond.code ({ cls := "JournalHouseModel", name := "isKept", desc := "(I)Z" } : Jvm.MethodName) prog_8_method_7_code (2 : Nat) (Option.some Jvm.ClassFile.FieldType.boolean)) ∈ jall := jall_t 799 rfl rfl
theorem k_828 : (Jvm.Cond.methodLink "JournalHouseModel" (154 : Nat) ({ cls := "JournalHouseModel", name := "takenBack", desc := "(II)I" } : Jvm.MethodName)) ∈ jall := jall_t 828 (by decide +kernel) (by decide +kernel)
theorem k_83 : (Jvm.Cond.fieldLink "JournalHouse$Store" (9 : Nat) "JournalHouse$Store" "records" "[I") ∈ jall := jall_t 83 (by decide +kernel) (by decide +kernel)
theorem k_830 : (Jvm.Cond.instanceMethod ({ cls := "JournalHouseModel", name := "takenBack", desc := "(II)I" } : Jvm.MethodName)) ∈ jall := jall_t 830 (by decide +kernel) (by decide +kernel)
set_option maxRecDepth 100000 in
theorem k_831 : (Jvm.Cond.code ({ cls := "JournalHouseModel", name := "takenBack", desc := "(II)I" } : Jvm.MethodName) prog_8_method_40_code (8 : Nat) (Option.some Jvm.ClassFile.FieldType.int)) ∈ jall := jall_t 831 rfl rfl
theorem k_84 : (Jvm.Cond.fieldLink "JournalHouse" (96 : Nat) "JournalHouse$Store" "records" "[I") ∈ jall := jall_t 84 (by decide +kernel) (by decide +kernel)
theorem k_85 : (Jvm.Cond.fieldLink "JournalHouse$Store" (15 : Nat) "JournalHouse$Store" "onDisk" "[I") ∈ jall := jall_t 85 (by decide +kernel) (by decide +kernel)
theorem k_86 : (Jvm.Cond.fieldLink "JournalHouse" (101 : Nat) "JournalHouse$Store" "onDisk" "[I") ∈ jall := jall_t 86 (by decide +kernel) (by decide +kernel)
theorem k_87 : (Jvm.Cond.fieldLink "JournalHouse$Store" (18 : Nat) "JournalHouse$Store" "waitingCells" "[I") ∈ jall := jall_t 87 (by decide +kernel) (by decide +kernel)
theorem k_88 : (Jvm.Cond.fieldLink "JournalHouse$Store" (21 : Nat) "JournalHouse$Store" "waitingValues" "[I") ∈ jall := jall_t 88 (by decide +kernel) (by decide +kernel)
theorem k_89 : (Jvm.Cond.fieldLink "JournalHouse$Store" (24 : Nat) "JournalHouse$Store" "waitingCount" "I") ∈ jall := jall_t 89 (by decide +kernel) (by decide +kernel)
theorem ks_0 : (Jvm.Cond.selects "JournalHouse" ({ cls := "JournalHouse", name := "isFile", desc := "(I)Z" } : Jvm.MethodName) ({ cls := "JournalHouse", name := "isFile", desc := "(I)Z" } : Jvm.MethodName)) ∈ jall := jall_s (by decide +kernel) (by decide +kernel)
theorem ks_1 : (Jvm.Cond.selects "JournalHouse$Journal" ({ cls := "JournalHouse$Journal", name := "isInOpenCycle", desc := "(I)Z" } : Jvm.MethodName) ({ cls := "JournalHouse$Journal", name := "isInOpenCycle", desc := "(I)Z" } : Jvm.MethodName)) ∈ jall := jall_s (by decide +kernel) (by decide +kernel)
theorem ks_10 : (Jvm.Cond.selects "JournalHouseModel" ({ cls := "JournalHouseModel", name := "cycleAt", desc := "(II)I" } : Jvm.MethodName) ({ cls := "JournalHouseModel", name := "cycleAt", desc := "(II)I" } : Jvm.MethodName)) ∈ jall := jall_s (by decide +kernel) (by decide +kernel)
theorem ks_11 : (Jvm.Cond.selects "JournalHouseModel" ({ cls := "JournalHouseModel", name := "changesOf", desc := "(I)I" } : Jvm.MethodName) ({ cls := "JournalHouseModel", name := "changesOf", desc := "(I)I" } : Jvm.MethodName)) ∈ jall := jall_s (by decide +kernel) (by decide +kernel)
theorem ks_12 : (Jvm.Cond.selects "JournalHouseModel" ({ cls := "JournalHouseModel", name := "valueAt", desc := "(III)I" } : Jvm.MethodName) ({ cls := "JournalHouseModel", name := "valueAt", desc := "(III)I" } : Jvm.MethodName)) ∈ jall := jall_s (by decide +kernel) (by decide +kernel)
theorem ks_13 : (Jvm.Cond.selects "JournalHouseModel" ({ cls := "JournalHouseModel", name := "note", desc := "(IIIII)V" } : Jvm.MethodName) ({ cls := "JournalHouseModel", name := "note", desc := "(IIIII)V" } : Jvm.MethodName)) ∈ jall := jall_s (by decide +kernel) (by decide +kernel)
theorem ks_14 : (Jvm.Cond.selects "JournalHouseModel" ({ cls := "JournalHouseModel", name := "landFirst", desc := "()V" } : Jvm.MethodName) ({ cls := "JournalHouseModel", name := "landFirst", desc := "()V" } : Jvm.MethodName)) ∈ jall := jall_s (by decide +kernel) (by decide +kernel)
theorem ks_15 : (Jvm.Cond.selects "JournalHouseModel" ({ cls := "JournalHouseModel", name := "put", desc := "(IIII)V" } : Jvm.MethodName) ({ cls := "JournalHouseModel", name := "put", desc := "(IIII)V" } : Jvm.MethodName)) ∈ jall := jall_s (by decide +kernel) (by decide +kernel)
theorem ks_16 : (Jvm.Cond.selects "JournalHouseModel" ({ cls := "JournalHouseModel", name := "reserve", desc := "()I" } : Jvm.MethodName) ({ cls := "JournalHouseModel", name := "reserve", desc := "()I" } : Jvm.MethodName)) ∈ jall := jall_s (by decide +kernel) (by decide +kernel)
theorem ks_17 : (Jvm.Cond.selects "JournalHouseModel" ({ cls := "JournalHouseModel", name := "refuse", desc := "(I)I" } : Jvm.MethodName) ({ cls := "JournalHouseModel", name := "refuse", desc := "(I)I" } : Jvm.MethodName)) ∈ jall := jall_s (by decide +kernel) (by decide +kernel)
theorem ks_18 : (Jvm.Cond.selects "JournalHouseModel" ({ cls := "JournalHouseModel", name := "isLocked", desc := "(III)Z" } : Jvm.MethodName) ({ cls := "JournalHouseModel", name := "isLocked", desc := "(III)Z" } : Jvm.MethodName)) ∈ jall := jall_s (by decide +kernel) (by decide +kernel)
theorem ks_19 : (Jvm.Cond.selects "JournalHouseModel" ({ cls := "JournalHouseModel", name := "room", desc := "()I" } : Jvm.MethodName) ({ cls := "JournalHouseModel", name := "room", desc := "()I" } : Jvm.MethodName)) ∈ jall := jall_s (by decide +kernel) (by decide +kernel)
theorem ks_2 : (Jvm.Cond.selects "JournalHouse$Journal" ({ cls := "JournalHouse$Journal", name := "room", desc := "()I" } : Jvm.MethodName) ({ cls := "JournalHouse$Journal", name := "room", desc := "()I" } : Jvm.MethodName)) ∈ jall := jall_s (by decide +kernel) (by decide +kernel)
theorem ks_20 : (Jvm.Cond.selects "JournalHouseModel" ({ cls := "JournalHouseModel", name := "isRecord", desc := "(II)Z" } : Jvm.MethodName) ({ cls := "JournalHouseModel", name := "isRecord", desc := "(II)Z" } : Jvm.MethodName)) ∈ jall := jall_s (by decide +kernel) (by decide +kernel)
theorem ks_21 : (Jvm.Cond.selects "JournalHouseModel" ({ cls := "JournalHouseModel", name := "undo", desc := "(I)V" } : Jvm.MethodName) ({ cls := "JournalHouseModel", name := "undo", desc := "(I)V" } : Jvm.MethodName)) ∈ jall := jall_s (by decide +kernel) (by decide +kernel)
theorem ks_22 : (Jvm.Cond.selects "JournalHouseModel" ({ cls := "JournalHouseModel", name := "isOn", desc := "(II)Z" } : Jvm.MethodName) ({ cls := "JournalHouseModel", name := "isOn", desc := "(II)Z" } : Jvm.MethodName)) ∈ jall := jall_s (by decide +kernel) (by decide +kernel)
theorem ks_23 : (Jvm.Cond.selects "JournalHouseModel" ({ cls := "JournalHouseModel", name := "become", desc := "(III)I" } : Jvm.MethodName) ({ cls := "JournalHouseModel", name := "become", desc := "(III)I" } : Jvm.MethodName)) ∈ jall := jall_s (by decide +kernel) (by decide +kernel)
theorem ks_24 : (Jvm.Cond.selects "JournalHouseModel" ({ cls := "JournalHouseModel", name := "lacks", desc := "(III)Z" } : Jvm.MethodName) ({ cls := "JournalHouseModel", name := "lacks", desc := "(III)Z" } : Jvm.MethodName)) ∈ jall := jall_s (by decide +kernel) (by decide +kernel)
theorem ks_25 : (Jvm.Cond.selects "JournalHouseModel" ({ cls := "JournalHouseModel", name := "isKept", desc := "(I)Z" } : Jvm.MethodName) ({ cls := "JournalHouseModel", name := "isKept", desc := "(I)Z" } : Jvm.MethodName)) ∈ jall := jall_s (by decide +kernel) (by decide +kernel)
theorem ks_26 : (Jvm.Cond.selects "JournalHouseModel" ({ cls := "JournalHouseModel", name := "takenBack", desc := "(II)I" } : Jvm.MethodName) ({ cls := "JournalHouseModel", name := "takenBack", desc := "(II)I" } : Jvm.MethodName)) ∈ jall := jall_s (by decide +kernel) (by decide +kernel)
theorem ks_3 : (Jvm.Cond.selects "JournalHouse$Journal" ({ cls := "JournalHouse$Journal", name := "reserve", desc := "()I" } : Jvm.MethodName) ({ cls := "JournalHouse$Journal", name := "reserve", desc := "()I" } : Jvm.MethodName)) ∈ jall := jall_s (by decide +kernel) (by decide +kernel)
theorem ks_4 : (Jvm.Cond.selects "JournalHouse$Journal" ({ cls := "JournalHouse$Journal", name := "noteOpenFiles", desc := "()V" } : Jvm.MethodName) ({ cls := "JournalHouse$Journal", name := "noteOpenFiles", desc := "()V" } : Jvm.MethodName)) ∈ jall := jall_s (by decide +kernel) (by decide +kernel)
theorem ks_5 : (Jvm.Cond.selects "JournalHouse" ({ cls := "JournalHouse", name := "isRecord", desc := "(II)Z" } : Jvm.MethodName) ({ cls := "JournalHouse", name := "isRecord", desc := "(II)Z" } : Jvm.MethodName)) ∈ jall := jall_s (by decide +kernel) (by decide +kernel)
theorem ks_6 : (Jvm.Cond.selects "JournalHouse" ({ cls := "JournalHouse", name := "writeChange", desc := "(III)V" } : Jvm.MethodName) ({ cls := "JournalHouse", name := "writeChange", desc := "(III)V" } : Jvm.MethodName)) ∈ jall := jall_s (by decide +kernel) (by decide +kernel)
theorem ks_7 : (Jvm.Cond.selects "JournalHouse" ({ cls := "JournalHouse", name := "numberToRemoveFrom", desc := "(I)I" } : Jvm.MethodName) ({ cls := "JournalHouse", name := "numberToRemoveFrom", desc := "(I)I" } : Jvm.MethodName)) ∈ jall := jall_s (by decide +kernel) (by decide +kernel)
theorem ks_8 : (Jvm.Cond.selects "JournalHouse" ({ cls := "JournalHouse", name := "partOfChange", desc := "(II)J" } : Jvm.MethodName) ({ cls := "JournalHouse", name := "partOfChange", desc := "(II)J" } : Jvm.MethodName)) ∈ jall := jall_s (by decide +kernel) (by decide +kernel)
theorem ks_9 : (Jvm.Cond.selects "JournalHouseModel" ({ cls := "JournalHouseModel", name := "isFile", desc := "(I)Z" } : Jvm.MethodName) ({ cls := "JournalHouseModel", name := "isFile", desc := "(I)Z" } : Jvm.MethodName)) ∈ jall := jall_s (by decide +kernel) (by decide +kernel)
theorem b_401 : (Jvm.Cond.methodLinkNest "JournalHouse$Journal" (43 : Nat) ({ cls := "JournalHouse", name := "fileOf", desc := "(I)I" } : Jvm.MethodName) "JournalHouse") ∈ jNl := jNl_t 401 (by decide +kernel) (by decide +kernel)
theorem b_453 : (Jvm.Cond.methodLinkNest "JournalHouse$Copies" (25 : Nat) ({ cls := "JournalHouse", name := "cellOf", desc := "(II)I" } : Jvm.MethodName) "JournalHouse") ∈ jNl := jNl_t 453 (by decide +kernel) (by decide +kernel)
end
section
theorem dJ_addChange_0 : decode cJ_addChange 0 = .ok (.aload_n 0, 1) := by decide +kernel
theorem dJ_addChange_1 : decode cJ_addChange 1 = .ok (.dup, 1) := by decide +kernel
theorem dJ_addChange_2 : decode cJ_addChange 2 = .ok (.getfield 39, 3) := by decide +kernel
theorem dJ_addChange_5 : decode cJ_addChange 5 = .ok (.iconst 1, 1) := by decide +kernel
theorem dJ_addChange_6 : decode cJ_addChange 6 = .ok (.iadd, 1) := by decide +kernel
theorem dJ_addChange_7 : decode cJ_addChange 7 = .ok (.putfield 39, 3) := by decide +kernel
theorem dJ_addChange_10 : decode cJ_addChange 10 = .ok (.aload_n 0, 1) := by decide +kernel
theorem dJ_addChange_11 : decode cJ_addChange 11 = .ok (.getfield 9, 3) := by decide +kernel
theorem dJ_addChange_14 : decode cJ_addChange 14 = .ok (.aload_n 0, 1) := by decide +kernel
theorem dJ_addChange_15 : decode cJ_addChange 15 = .ok (.getfield 39, 3) := by decide +kernel
theorem dJ_addChange_18 : decode cJ_addChange 18 = .ok (.iconst 1, 1) := by decide +kernel
theorem dJ_addChange_19 : decode cJ_addChange 19 = .ok (.iastore, 1) := by decide +kernel
theorem dJ_addChange_20 : decode cJ_addChange 20 = .ok (.aload_n 0, 1) := by decide +kernel
theorem dJ_addChange_21 : decode cJ_addChange 21 = .ok (.getfield 15, 3) := by decide +kernel
theorem dJ_addChange_24 : decode cJ_addChange 24 = .ok (.aload_n 0, 1) := by decide +kernel
theorem dJ_addChange_25 : decode cJ_addChange 25 = .ok (.getfield 39, 3) := by decide +kernel
theorem dJ_addChange_28 : decode cJ_addChange 28 = .ok (.iload_n 1, 1) := by decide +kernel
theorem dJ_addChange_29 : decode cJ_addChange 29 = .ok (.iastore, 1) := by decide +kernel
theorem dJ_addChange_30 : decode cJ_addChange 30 = .ok (.aload_n 0, 1) := by decide +kernel
theorem dJ_addChange_31 : decode cJ_addChange 31 = .ok (.getfield 18, 3) := by decide +kernel
theorem dJ_addChange_34 : decode cJ_addChange 34 = .ok (.aload_n 0, 1) := by decide +kernel
theorem dJ_addChange_35 : decode cJ_addChange 35 = .ok (.getfield 39, 3) := by decide +kernel
theorem dJ_addChange_38 : decode cJ_addChange 38 = .ok (.iload_n 2, 1) := by decide +kernel
theorem dJ_addChange_39 : decode cJ_addChange 39 = .ok (.iastore, 1) := by decide +kernel
theorem dJ_addChange_40 : decode cJ_addChange 40 = .ok (.aload_n 0, 1) := by decide +kernel
theorem dJ_addChange_41 : decode cJ_addChange 41 = .ok (.getfield 21, 3) := by decide +kernel
theorem dJ_addChange_44 : decode cJ_addChange 44 = .ok (.aload_n 0, 1) := by decide +kernel
theorem dJ_addChange_45 : decode cJ_addChange 45 = .ok (.getfield 39, 3) := by decide +kernel
theorem dJ_addChange_48 : decode cJ_addChange 48 = .ok (.iload_n 3, 1) := by decide +kernel
theorem dJ_addChange_49 : decode cJ_addChange 49 = .ok (.iastore, 1) := by decide +kernel
theorem dJ_addChange_50 : decode cJ_addChange 50 = .ok (.aload_n 0, 1) := by decide +kernel
theorem dJ_addChange_51 : decode cJ_addChange 51 = .ok (.getfield 24, 3) := by decide +kernel
theorem dJ_addChange_54 : decode cJ_addChange 54 = .ok (.aload_n 0, 1) := by decide +kernel
theorem dJ_addChange_55 : decode cJ_addChange 55 = .ok (.getfield 39, 3) := by decide +kernel
theorem dJ_addChange_58 : decode cJ_addChange 58 = .ok (.iload 4, 2) := by decide +kernel
theorem dJ_addChange_60 : decode cJ_addChange 60 = .ok (.iastore, 1) := by decide +kernel
theorem dJ_addChange_61 : decode cJ_addChange 61 = .ok (.aload_n 0, 1) := by decide +kernel
theorem dJ_addChange_62 : decode cJ_addChange 62 = .ok (.getfield 30, 3) := by decide +kernel
theorem dJ_addChange_65 : decode cJ_addChange 65 = .ok (.iload_n 1, 1) := by decide +kernel
theorem dJ_addChange_66 : decode cJ_addChange 66 = .ok (.iaload, 1) := by decide +kernel
theorem dJ_addChange_67 : decode cJ_addChange 67 = .ok (.ifCond .ne 13, 3) := by decide +kernel
theorem dJ_addChange_70 : decode cJ_addChange 70 = .ok (.aload_n 0, 1) := by decide +kernel
theorem dJ_addChange_71 : decode cJ_addChange 71 = .ok (.getfield 30, 3) := by decide +kernel
theorem dJ_addChange_74 : decode cJ_addChange 74 = .ok (.iload_n 1, 1) := by decide +kernel
theorem dJ_addChange_75 : decode cJ_addChange 75 = .ok (.aload_n 0, 1) := by decide +kernel
theorem dJ_addChange_76 : decode cJ_addChange 76 = .ok (.getfield 39, 3) := by decide +kernel
theorem dJ_addChange_79 : decode cJ_addChange 79 = .ok (.iastore, 1) := by decide +kernel
theorem dJ_addChange_80 : decode cJ_addChange 80 = .ok (.aload_n 0, 1) := by decide +kernel
theorem dJ_addChange_81 : decode cJ_addChange 81 = .ok (.getfield 33, 3) := by decide +kernel
theorem dJ_addChange_84 : decode cJ_addChange 84 = .ok (.iload_n 1, 1) := by decide +kernel
theorem dJ_addChange_85 : decode cJ_addChange 85 = .ok (.dup2, 1) := by decide +kernel
theorem dJ_addChange_86 : decode cJ_addChange 86 = .ok (.iaload, 1) := by decide +kernel
theorem dJ_addChange_87 : decode cJ_addChange 87 = .ok (.iconst 1, 1) := by decide +kernel
theorem dJ_addChange_88 : decode cJ_addChange 88 = .ok (.iadd, 1) := by decide +kernel
theorem dJ_addChange_89 : decode cJ_addChange 89 = .ok (.iastore, 1) := by decide +kernel
theorem dJ_addChange_90 : decode cJ_addChange 90 = .ok (.aload_n 0, 1) := by decide +kernel
theorem dJ_addChange_91 : decode cJ_addChange 91 = .ok (.getfield 36, 3) := by decide +kernel
theorem dJ_addChange_94 : decode cJ_addChange 94 = .ok (.iload_n 1, 1) := by decide +kernel
theorem dJ_addChange_95 : decode cJ_addChange 95 = .ok (.dup2, 1) := by decide +kernel
theorem dJ_addChange_96 : decode cJ_addChange 96 = .ok (.iaload, 1) := by decide +kernel
theorem dJ_addChange_97 : decode cJ_addChange 97 = .ok (.iconst 1, 1) := by decide +kernel
theorem dJ_addChange_98 : decode cJ_addChange 98 = .ok (.iload_n 2, 1) := by decide +kernel
theorem dJ_addChange_99 : decode cJ_addChange 99 = .ok (.invokestatic 43, 3) := by decide +kernel
theorem dJ_addChange_102 : decode cJ_addChange 102 = .ok (.ishl, 1) := by decide +kernel
theorem dJ_addChange_103 : decode cJ_addChange 103 = .ok (.ior, 1) := by decide +kernel
theorem dJ_addChange_104 : decode cJ_addChange 104 = .ok (.iastore, 1) := by decide +kernel
theorem dJ_addChange_105 : decode cJ_addChange 105 = .ok (.aload_n 0, 1) := by decide +kernel
theorem dJ_addChange_106 : decode cJ_addChange 106 = .ok (.invokevirtual 47, 3) := by decide +kernel
theorem dJ_addChange_109 : decode cJ_addChange 109 = .ok (.return_, 1) := by decide +kernel
theorem dJ_addEnd_0 : decode cJ_addEnd 0 = .ok (.aload_n 0, 1) := by decide +kernel
theorem dJ_addEnd_1 : decode cJ_addEnd 1 = .ok (.dup, 1) := by decide +kernel
theorem dJ_addEnd_2 : decode cJ_addEnd 2 = .ok (.getfield 39, 3) := by decide +kernel
theorem dJ_addEnd_5 : decode cJ_addEnd 5 = .ok (.iconst 1, 1) := by decide +kernel
theorem dJ_addEnd_6 : decode cJ_addEnd 6 = .ok (.iadd, 1) := by decide +kernel
theorem dJ_addEnd_7 : decode cJ_addEnd 7 = .ok (.putfield 39, 3) := by decide +kernel
theorem dJ_addEnd_10 : decode cJ_addEnd 10 = .ok (.aload_n 0, 1) := by decide +kernel
theorem dJ_addEnd_11 : decode cJ_addEnd 11 = .ok (.getfield 9, 3) := by decide +kernel
theorem dJ_addEnd_14 : decode cJ_addEnd 14 = .ok (.aload_n 0, 1) := by decide +kernel
theorem dJ_addEnd_15 : decode cJ_addEnd 15 = .ok (.getfield 39, 3) := by decide +kernel
theorem dJ_addEnd_18 : decode cJ_addEnd 18 = .ok (.iload_n 1, 1) := by decide +kernel
theorem dJ_addEnd_19 : decode cJ_addEnd 19 = .ok (.iastore, 1) := by decide +kernel
theorem dJ_addEnd_20 : decode cJ_addEnd 20 = .ok (.aload_n 0, 1) := by decide +kernel
theorem dJ_addEnd_21 : decode cJ_addEnd 21 = .ok (.getfield 15, 3) := by decide +kernel
theorem dJ_addEnd_24 : decode cJ_addEnd 24 = .ok (.aload_n 0, 1) := by decide +kernel
theorem dJ_addEnd_25 : decode cJ_addEnd 25 = .ok (.getfield 39, 3) := by decide +kernel
theorem dJ_addEnd_28 : decode cJ_addEnd 28 = .ok (.iload_n 2, 1) := by decide +kernel
theorem dJ_addEnd_29 : decode cJ_addEnd 29 = .ok (.iastore, 1) := by decide +kernel
theorem dJ_addEnd_30 : decode cJ_addEnd 30 = .ok (.aload_n 0, 1) := by decide +kernel
theorem dJ_addEnd_31 : decode cJ_addEnd 31 = .ok (.getfield 30, 3) := by decide +kernel
theorem dJ_addEnd_34 : decode cJ_addEnd 34 = .ok (.iload_n 2, 1) := by decide +kernel
theorem dJ_addEnd_35 : decode cJ_addEnd 35 = .ok (.iconst 0, 1) := by decide +kernel
theorem dJ_addEnd_36 : decode cJ_addEnd 36 = .ok (.iastore, 1) := by decide +kernel
theorem dJ_addEnd_37 : decode cJ_addEnd 37 = .ok (.aload_n 0, 1) := by decide +kernel
theorem dJ_addEnd_38 : decode cJ_addEnd 38 = .ok (.getfield 33, 3) := by decide +kernel
theorem dJ_addEnd_41 : decode cJ_addEnd 41 = .ok (.iload_n 2, 1) := by decide +kernel
theorem dJ_addEnd_42 : decode cJ_addEnd 42 = .ok (.iconst 0, 1) := by decide +kernel
theorem dJ_addEnd_43 : decode cJ_addEnd 43 = .ok (.iastore, 1) := by decide +kernel
theorem dJ_addEnd_44 : decode cJ_addEnd 44 = .ok (.aload_n 0, 1) := by decide +kernel
theorem dJ_addEnd_45 : decode cJ_addEnd 45 = .ok (.getfield 36, 3) := by decide +kernel
theorem dJ_addEnd_48 : decode cJ_addEnd 48 = .ok (.iload_n 2, 1) := by decide +kernel
theorem dJ_addEnd_49 : decode cJ_addEnd 49 = .ok (.iconst 0, 1) := by decide +kernel
theorem dJ_addEnd_50 : decode cJ_addEnd 50 = .ok (.iastore, 1) := by decide +kernel
theorem dJ_addEnd_51 : decode cJ_addEnd 51 = .ok (.aload_n 0, 1) := by decide +kernel
theorem dJ_addEnd_52 : decode cJ_addEnd 52 = .ok (.invokevirtual 47, 3) := by decide +kernel
theorem dJ_addEnd_55 : decode cJ_addEnd 55 = .ok (.return_, 1) := by decide +kernel
theorem dJ_noteOpenFiles_0 : decode cJ_noteOpenFiles 0 = .ok (.iconst 0, 1) := by decide +kernel
theorem dJ_noteOpenFiles_1 : decode cJ_noteOpenFiles 1 = .ok (.istore_n 1, 1) := by decide +kernel
theorem dJ_noteOpenFiles_2 : decode cJ_noteOpenFiles 2 = .ok (.iconst 0, 1) := by decide +kernel
theorem dJ_noteOpenFiles_3 : decode cJ_noteOpenFiles 3 = .ok (.istore_n 2, 1) := by decide +kernel
theorem dJ_noteOpenFiles_4 : decode cJ_noteOpenFiles 4 = .ok (.iload_n 2, 1) := by decide +kernel
theorem dJ_noteOpenFiles_5 : decode cJ_noteOpenFiles 5 = .ok (.iconst 3, 1) := by decide +kernel
theorem dJ_noteOpenFiles_6 : decode cJ_noteOpenFiles 6 = .ok (.if_icmp .gt 18, 3) := by decide +kernel
theorem dJ_noteOpenFiles_9 : decode cJ_noteOpenFiles 9 = .ok (.iload_n 1, 1) := by decide +kernel
theorem dJ_noteOpenFiles_10 : decode cJ_noteOpenFiles 10 = .ok (.aload_n 0, 1) := by decide +kernel
theorem dJ_noteOpenFiles_11 : decode cJ_noteOpenFiles 11 = .ok (.getfield 36, 3) := by decide +kernel
theorem dJ_noteOpenFiles_14 : decode cJ_noteOpenFiles 14 = .ok (.iload_n 2, 1) := by decide +kernel
theorem dJ_noteOpenFiles_15 : decode cJ_noteOpenFiles 15 = .ok (.iaload, 1) := by decide +kernel
theorem dJ_noteOpenFiles_16 : decode cJ_noteOpenFiles 16 = .ok (.ior, 1) := by decide +kernel
theorem dJ_noteOpenFiles_17 : decode cJ_noteOpenFiles 17 = .ok (.istore_n 1, 1) := by decide +kernel
theorem dJ_noteOpenFiles_18 : decode cJ_noteOpenFiles 18 = .ok (.iinc 2 1, 3) := by decide +kernel
theorem dJ_noteOpenFiles_21 : decode cJ_noteOpenFiles 21 = .ok (.goto (-17), 3) := by decide +kernel
theorem dJ_noteOpenFiles_24 : decode cJ_noteOpenFiles 24 = .ok (.aload_n 0, 1) := by decide +kernel
theorem dJ_noteOpenFiles_25 : decode cJ_noteOpenFiles 25 = .ok (.getfield 27, 3) := by decide +kernel
theorem dJ_noteOpenFiles_28 : decode cJ_noteOpenFiles 28 = .ok (.aload_n 0, 1) := by decide +kernel
theorem dJ_noteOpenFiles_29 : decode cJ_noteOpenFiles 29 = .ok (.getfield 39, 3) := by decide +kernel
theorem dJ_noteOpenFiles_32 : decode cJ_noteOpenFiles 32 = .ok (.iload_n 1, 1) := by decide +kernel
theorem dJ_noteOpenFiles_33 : decode cJ_noteOpenFiles 33 = .ok (.iastore, 1) := by decide +kernel
theorem dJ_noteOpenFiles_34 : decode cJ_noteOpenFiles 34 = .ok (.return_, 1) := by decide +kernel
theorem dJ_isCycleOpen_0 : decode cJ_isCycleOpen 0 = .ok (.aload_n 0, 1) := by decide +kernel
theorem dJ_isCycleOpen_1 : decode cJ_isCycleOpen 1 = .ok (.getfield 30, 3) := by decide +kernel
theorem dJ_isCycleOpen_4 : decode cJ_isCycleOpen 4 = .ok (.iload_n 1, 1) := by decide +kernel
theorem dJ_isCycleOpen_5 : decode cJ_isCycleOpen 5 = .ok (.iaload, 1) := by decide +kernel
theorem dJ_isCycleOpen_6 : decode cJ_isCycleOpen 6 = .ok (.ifCond .le 7, 3) := by decide +kernel
theorem dJ_isCycleOpen_9 : decode cJ_isCycleOpen 9 = .ok (.iconst 1, 1) := by decide +kernel
theorem dJ_isCycleOpen_10 : decode cJ_isCycleOpen 10 = .ok (.goto 4, 3) := by decide +kernel
theorem dJ_isCycleOpen_13 : decode cJ_isCycleOpen 13 = .ok (.iconst 0, 1) := by decide +kernel
theorem dJ_isCycleOpen_14 : decode cJ_isCycleOpen 14 = .ok (.ireturn, 1) := by decide +kernel
theorem dJ_isCycleOn_0 : decode cJ_isCycleOn 0 = .ok (.aload_n 0, 1) := by decide +kernel
theorem dJ_isCycleOn_1 : decode cJ_isCycleOn 1 = .ok (.iload_n 1, 1) := by decide +kernel
theorem dJ_isCycleOn_2 : decode cJ_isCycleOn 2 = .ok (.aload_n 0, 1) := by decide +kernel
theorem dJ_isCycleOn_3 : decode cJ_isCycleOn 3 = .ok (.getfield 39, 3) := by decide +kernel
theorem dJ_isCycleOn_6 : decode cJ_isCycleOn 6 = .ok (.invokevirtual 50, 3) := by decide +kernel
theorem dJ_isCycleOn_9 : decode cJ_isCycleOn 9 = .ok (.ifCond .ne 7, 3) := by decide +kernel
theorem dJ_isCycleOn_12 : decode cJ_isCycleOn 12 = .ok (.iconst 1, 1) := by decide +kernel
theorem dJ_isCycleOn_13 : decode cJ_isCycleOn 13 = .ok (.goto 4, 3) := by decide +kernel
theorem dJ_isCycleOn_16 : decode cJ_isCycleOn 16 = .ok (.iconst 0, 1) := by decide +kernel
theorem dJ_isCycleOn_17 : decode cJ_isCycleOn 17 = .ok (.ireturn, 1) := by decide +kernel
theorem dJ_isBoundary_0 : decode cJ_isBoundary 0 = .ok (.iload_n 2, 1) := by decide +kernel
theorem dJ_isBoundary_1 : decode cJ_isBoundary 1 = .ok (.ifCond .lt 28, 3) := by decide +kernel
theorem dJ_isBoundary_4 : decode cJ_isBoundary 4 = .ok (.iload_n 2, 1) := by decide +kernel
theorem dJ_isBoundary_5 : decode cJ_isBoundary 5 = .ok (.aload_n 0, 1) := by decide +kernel
theorem dJ_isBoundary_6 : decode cJ_isBoundary 6 = .ok (.getfield 39, 3) := by decide +kernel
theorem dJ_isBoundary_9 : decode cJ_isBoundary 9 = .ok (.if_icmp .gt 20, 3) := by decide +kernel
theorem dJ_isBoundary_12 : decode cJ_isBoundary 12 = .ok (.aload_n 0, 1) := by decide +kernel
theorem dJ_isBoundary_13 : decode cJ_isBoundary 13 = .ok (.getfield 27, 3) := by decide +kernel
theorem dJ_isBoundary_16 : decode cJ_isBoundary 16 = .ok (.iload_n 2, 1) := by decide +kernel
theorem dJ_isBoundary_17 : decode cJ_isBoundary 17 = .ok (.iaload, 1) := by decide +kernel
theorem dJ_isBoundary_18 : decode cJ_isBoundary 18 = .ok (.iload_n 1, 1) := by decide +kernel
theorem dJ_isBoundary_19 : decode cJ_isBoundary 19 = .ok (.ishr, 1) := by decide +kernel
theorem dJ_isBoundary_20 : decode cJ_isBoundary 20 = .ok (.iconst 1, 1) := by decide +kernel
theorem dJ_isBoundary_21 : decode cJ_isBoundary 21 = .ok (.iand, 1) := by decide +kernel
theorem dJ_isBoundary_22 : decode cJ_isBoundary 22 = .ok (.ifCond .ne 7, 3) := by decide +kernel
theorem dJ_isBoundary_25 : decode cJ_isBoundary 25 = .ok (.iconst 1, 1) := by decide +kernel
theorem dJ_isBoundary_26 : decode cJ_isBoundary 26 = .ok (.goto 4, 3) := by decide +kernel
theorem dJ_isBoundary_29 : decode cJ_isBoundary 29 = .ok (.iconst 0, 1) := by decide +kernel
theorem dJ_isBoundary_30 : decode cJ_isBoundary 30 = .ok (.ireturn, 1) := by decide +kernel
theorem dJ_isLockedByAnother_0 : decode cJ_isLockedByAnother 0 = .ok (.aload_n 0, 1) := by decide +kernel
theorem dJ_isLockedByAnother_1 : decode cJ_isLockedByAnother 1 = .ok (.invokevirtual 54, 3) := by decide +kernel
theorem dJ_isLockedByAnother_4 : decode cJ_isLockedByAnother 4 = .ok (.istore_n 3, 1) := by decide +kernel
theorem dJ_isLockedByAnother_5 : decode cJ_isLockedByAnother 5 = .ok (.iload_n 3, 1) := by decide +kernel
theorem dJ_isLockedByAnother_6 : decode cJ_isLockedByAnother 6 = .ok (.aload_n 0, 1) := by decide +kernel
theorem dJ_isLockedByAnother_7 : decode cJ_isLockedByAnother 7 = .ok (.getfield 39, 3) := by decide +kernel
theorem dJ_isLockedByAnother_10 : decode cJ_isLockedByAnother 10 = .ok (.if_icmp .gt 49, 3) := by decide +kernel
theorem dJ_isLockedByAnother_13 : decode cJ_isLockedByAnother 13 = .ok (.aload_n 0, 1) := by decide +kernel
theorem dJ_isLockedByAnother_14 : decode cJ_isLockedByAnother 14 = .ok (.getfield 9, 3) := by decide +kernel
theorem dJ_isLockedByAnother_17 : decode cJ_isLockedByAnother 17 = .ok (.iload_n 3, 1) := by decide +kernel
theorem dJ_isLockedByAnother_18 : decode cJ_isLockedByAnother 18 = .ok (.iaload, 1) := by decide +kernel
theorem dJ_isLockedByAnother_19 : decode cJ_isLockedByAnother 19 = .ok (.iconst 1, 1) := by decide +kernel
theorem dJ_isLockedByAnother_20 : decode cJ_isLockedByAnother 20 = .ok (.if_icmp .ne 33, 3) := by decide +kernel
theorem dJ_isLockedByAnother_23 : decode cJ_isLockedByAnother 23 = .ok (.aload_n 0, 1) := by decide +kernel
theorem dJ_isLockedByAnother_24 : decode cJ_isLockedByAnother 24 = .ok (.getfield 18, 3) := by decide +kernel
theorem dJ_isLockedByAnother_27 : decode cJ_isLockedByAnother 27 = .ok (.iload_n 3, 1) := by decide +kernel
theorem dJ_isLockedByAnother_28 : decode cJ_isLockedByAnother 28 = .ok (.iaload, 1) := by decide +kernel
theorem dJ_isLockedByAnother_29 : decode cJ_isLockedByAnother 29 = .ok (.iload_n 2, 1) := by decide +kernel
theorem dJ_isLockedByAnother_30 : decode cJ_isLockedByAnother 30 = .ok (.if_icmp .ne 23, 3) := by decide +kernel
theorem dJ_isLockedByAnother_33 : decode cJ_isLockedByAnother 33 = .ok (.aload_n 0, 1) := by decide +kernel
theorem dJ_isLockedByAnother_34 : decode cJ_isLockedByAnother 34 = .ok (.getfield 15, 3) := by decide +kernel
theorem dJ_isLockedByAnother_37 : decode cJ_isLockedByAnother 37 = .ok (.iload_n 3, 1) := by decide +kernel
theorem dJ_isLockedByAnother_38 : decode cJ_isLockedByAnother 38 = .ok (.iaload, 1) := by decide +kernel
theorem dJ_isLockedByAnother_39 : decode cJ_isLockedByAnother 39 = .ok (.iload_n 1, 1) := by decide +kernel
theorem dJ_isLockedByAnother_40 : decode cJ_isLockedByAnother 40 = .ok (.if_icmp .eq 13, 3) := by decide +kernel
theorem dJ_isLockedByAnother_43 : decode cJ_isLockedByAnother 43 = .ok (.aload_n 0, 1) := by decide +kernel
theorem dJ_isLockedByAnother_44 : decode cJ_isLockedByAnother 44 = .ok (.iload_n 3, 1) := by decide +kernel
theorem dJ_isLockedByAnother_45 : decode cJ_isLockedByAnother 45 = .ok (.invokevirtual 58, 3) := by decide +kernel
theorem dJ_isLockedByAnother_48 : decode cJ_isLockedByAnother 48 = .ok (.ifCond .eq 5, 3) := by decide +kernel
theorem dJ_isLockedByAnother_51 : decode cJ_isLockedByAnother 51 = .ok (.iconst 1, 1) := by decide +kernel
theorem dJ_isLockedByAnother_52 : decode cJ_isLockedByAnother 52 = .ok (.ireturn, 1) := by decide +kernel
theorem dJ_isLockedByAnother_53 : decode cJ_isLockedByAnother 53 = .ok (.iinc 3 1, 3) := by decide +kernel
theorem dJ_isLockedByAnother_56 : decode cJ_isLockedByAnother 56 = .ok (.goto (-51), 3) := by decide +kernel
theorem dJ_isLockedByAnother_59 : decode cJ_isLockedByAnother 59 = .ok (.iconst 0, 1) := by decide +kernel
theorem dJ_isLockedByAnother_60 : decode cJ_isLockedByAnother 60 = .ok (.ireturn, 1) := by decide +kernel
theorem dJ_isInOpenCycle_0 : decode cJ_isInOpenCycle 0 = .ok (.aload_n 0, 1) := by decide +kernel
theorem dJ_isInOpenCycle_1 : decode cJ_isInOpenCycle 1 = .ok (.getfield 15, 3) := by decide +kernel
theorem dJ_isInOpenCycle_4 : decode cJ_isInOpenCycle 4 = .ok (.iload_n 1, 1) := by decide +kernel
theorem dJ_isInOpenCycle_5 : decode cJ_isInOpenCycle 5 = .ok (.iaload, 1) := by decide +kernel
theorem dJ_isInOpenCycle_6 : decode cJ_isInOpenCycle 6 = .ok (.istore_n 2, 1) := by decide +kernel
theorem dJ_isInOpenCycle_7 : decode cJ_isInOpenCycle 7 = .ok (.aload_n 0, 1) := by decide +kernel
theorem dJ_isInOpenCycle_8 : decode cJ_isInOpenCycle 8 = .ok (.iload_n 2, 1) := by decide +kernel
theorem dJ_isInOpenCycle_9 : decode cJ_isInOpenCycle 9 = .ok (.invokevirtual 62, 3) := by decide +kernel
theorem dJ_isInOpenCycle_12 : decode cJ_isInOpenCycle 12 = .ok (.ifCond .eq 17, 3) := by decide +kernel
theorem dJ_isInOpenCycle_15 : decode cJ_isInOpenCycle 15 = .ok (.iload_n 1, 1) := by decide +kernel
theorem dJ_isInOpenCycle_16 : decode cJ_isInOpenCycle 16 = .ok (.aload_n 0, 1) := by decide +kernel
theorem dJ_isInOpenCycle_17 : decode cJ_isInOpenCycle 17 = .ok (.getfield 30, 3) := by decide +kernel
theorem dJ_isInOpenCycle_20 : decode cJ_isInOpenCycle 20 = .ok (.iload_n 2, 1) := by decide +kernel
theorem dJ_isInOpenCycle_21 : decode cJ_isInOpenCycle 21 = .ok (.iaload, 1) := by decide +kernel
theorem dJ_isInOpenCycle_22 : decode cJ_isInOpenCycle 22 = .ok (.if_icmp .lt 7, 3) := by decide +kernel
theorem dJ_isInOpenCycle_25 : decode cJ_isInOpenCycle 25 = .ok (.iconst 1, 1) := by decide +kernel
theorem dJ_isInOpenCycle_26 : decode cJ_isInOpenCycle 26 = .ok (.goto 4, 3) := by decide +kernel
theorem dJ_isInOpenCycle_29 : decode cJ_isInOpenCycle 29 = .ok (.iconst 0, 1) := by decide +kernel
theorem dJ_isInOpenCycle_30 : decode cJ_isInOpenCycle 30 = .ok (.ireturn, 1) := by decide +kernel
theorem dJ_refusesChangeBy_0 : decode cJ_refusesChangeBy 0 = .ok (.aload_n 0, 1) := by decide +kernel
theorem dJ_refusesChangeBy_1 : decode cJ_refusesChangeBy 1 = .ok (.iload_n 1, 1) := by decide +kernel
theorem dJ_refusesChangeBy_2 : decode cJ_refusesChangeBy 2 = .ok (.invokevirtual 62, 3) := by decide +kernel
theorem dJ_refusesChangeBy_5 : decode cJ_refusesChangeBy 5 = .ok (.ifCond .eq 7, 3) := by decide +kernel
theorem dJ_refusesChangeBy_8 : decode cJ_refusesChangeBy 8 = .ok (.iconst 1, 1) := by decide +kernel
theorem dJ_refusesChangeBy_9 : decode cJ_refusesChangeBy 9 = .ok (.goto 4, 3) := by decide +kernel
theorem dJ_refusesChangeBy_12 : decode cJ_refusesChangeBy 12 = .ok (.iconst 2, 1) := by decide +kernel
theorem dJ_refusesChangeBy_13 : decode cJ_refusesChangeBy 13 = .ok (.istore_n 2, 1) := by decide +kernel
theorem dJ_refusesChangeBy_14 : decode cJ_refusesChangeBy 14 = .ok (.aload_n 0, 1) := by decide +kernel
theorem dJ_refusesChangeBy_15 : decode cJ_refusesChangeBy 15 = .ok (.invokevirtual 65, 3) := by decide +kernel
theorem dJ_refusesChangeBy_18 : decode cJ_refusesChangeBy 18 = .ok (.iconst 1, 1) := by decide +kernel
theorem dJ_refusesChangeBy_19 : decode cJ_refusesChangeBy 19 = .ok (.isub, 1) := by decide +kernel
theorem dJ_refusesChangeBy_20 : decode cJ_refusesChangeBy 20 = .ok (.aload_n 0, 1) := by decide +kernel
theorem dJ_refusesChangeBy_21 : decode cJ_refusesChangeBy 21 = .ok (.invokevirtual 68, 3) := by decide +kernel
theorem dJ_refusesChangeBy_24 : decode cJ_refusesChangeBy 24 = .ok (.iload_n 2, 1) := by decide +kernel
theorem dJ_refusesChangeBy_25 : decode cJ_refusesChangeBy 25 = .ok (.iadd, 1) := by decide +kernel
theorem dJ_refusesChangeBy_26 : decode cJ_refusesChangeBy 26 = .ok (.if_icmp .ge 7, 3) := by decide +kernel
theorem dJ_refusesChangeBy_29 : decode cJ_refusesChangeBy 29 = .ok (.iconst 1, 1) := by decide +kernel
theorem dJ_refusesChangeBy_30 : decode cJ_refusesChangeBy 30 = .ok (.goto 4, 3) := by decide +kernel
theorem dJ_refusesChangeBy_33 : decode cJ_refusesChangeBy 33 = .ok (.iconst 0, 1) := by decide +kernel
theorem dJ_refusesChangeBy_34 : decode cJ_refusesChangeBy 34 = .ok (.ireturn, 1) := by decide +kernel
theorem dJ_refusesOwnChanges_0 : decode cJ_refusesOwnChanges 0 = .ok (.iload_n 1, 1) := by decide +kernel
theorem dJ_refusesOwnChanges_1 : decode cJ_refusesOwnChanges 1 = .ok (.ifCond .le 22, 3) := by decide +kernel
theorem dJ_refusesOwnChanges_4 : decode cJ_refusesOwnChanges 4 = .ok (.aload_n 0, 1) := by decide +kernel
theorem dJ_refusesOwnChanges_5 : decode cJ_refusesOwnChanges 5 = .ok (.invokevirtual 65, 3) := by decide +kernel
theorem dJ_refusesOwnChanges_8 : decode cJ_refusesOwnChanges 8 = .ok (.iload_n 1, 1) := by decide +kernel
theorem dJ_refusesOwnChanges_9 : decode cJ_refusesOwnChanges 9 = .ok (.isub, 1) := by decide +kernel
theorem dJ_refusesOwnChanges_10 : decode cJ_refusesOwnChanges 10 = .ok (.iconst 1, 1) := by decide +kernel
theorem dJ_refusesOwnChanges_11 : decode cJ_refusesOwnChanges 11 = .ok (.isub, 1) := by decide +kernel
theorem dJ_refusesOwnChanges_12 : decode cJ_refusesOwnChanges 12 = .ok (.aload_n 0, 1) := by decide +kernel
theorem dJ_refusesOwnChanges_13 : decode cJ_refusesOwnChanges 13 = .ok (.invokevirtual 68, 3) := by decide +kernel
theorem dJ_refusesOwnChanges_16 : decode cJ_refusesOwnChanges 16 = .ok (.if_icmp .ge 7, 3) := by decide +kernel
theorem dJ_refusesOwnChanges_19 : decode cJ_refusesOwnChanges 19 = .ok (.iconst 1, 1) := by decide +kernel
theorem dJ_refusesOwnChanges_20 : decode cJ_refusesOwnChanges 20 = .ok (.goto 4, 3) := by decide +kernel
theorem dJ_refusesOwnChanges_23 : decode cJ_refusesOwnChanges 23 = .ok (.iconst 0, 1) := by decide +kernel
theorem dJ_refusesOwnChanges_24 : decode cJ_refusesOwnChanges 24 = .ok (.ireturn, 1) := by decide +kernel
theorem dJ_room_0 : decode cJ_room 0 = .ok (.bipush 120, 2) := by decide +kernel
theorem dJ_room_2 : decode cJ_room 2 = .ok (.bipush 8, 2) := by decide +kernel
theorem dJ_room_4 : decode cJ_room 4 = .ok (.aload_n 0, 1) := by decide +kernel
theorem dJ_room_5 : decode cJ_room 5 = .ok (.getfield 71, 3) := by decide +kernel
theorem dJ_room_8 : decode cJ_room 8 = .ok (.bipush 6, 2) := by decide +kernel
theorem dJ_room_10 : decode cJ_room 10 = .ok (.iadd, 1) := by decide +kernel
theorem dJ_room_11 : decode cJ_room 11 = .ok (.imul, 1) := by decide +kernel
theorem dJ_room_12 : decode cJ_room 12 = .ok (.invokestatic 74, 3) := by decide +kernel
theorem dJ_room_15 : decode cJ_room 15 = .ok (.aload_n 0, 1) := by decide +kernel
theorem dJ_room_16 : decode cJ_room 16 = .ok (.getfield 39, 3) := by decide +kernel
theorem dJ_room_19 : decode cJ_room 19 = .ok (.isub, 1) := by decide +kernel
theorem dJ_room_20 : decode cJ_room 20 = .ok (.ireturn, 1) := by decide +kernel
theorem dJ_reserve_0 : decode cJ_reserve 0 = .ok (.iconst 0, 1) := by decide +kernel
theorem dJ_reserve_1 : decode cJ_reserve 1 = .ok (.istore_n 1, 1) := by decide +kernel
theorem dJ_reserve_2 : decode cJ_reserve 2 = .ok (.iconst 0, 1) := by decide +kernel
theorem dJ_reserve_3 : decode cJ_reserve 3 = .ok (.istore_n 2, 1) := by decide +kernel
theorem dJ_reserve_4 : decode cJ_reserve 4 = .ok (.iload_n 2, 1) := by decide +kernel
theorem dJ_reserve_5 : decode cJ_reserve 5 = .ok (.iconst 3, 1) := by decide +kernel
theorem dJ_reserve_6 : decode cJ_reserve 6 = .ok (.if_icmp .ge 28, 3) := by decide +kernel
theorem dJ_reserve_9 : decode cJ_reserve 9 = .ok (.aload_n 0, 1) := by decide +kernel
theorem dJ_reserve_10 : decode cJ_reserve 10 = .ok (.iload_n 2, 1) := by decide +kernel
theorem dJ_reserve_11 : decode cJ_reserve 11 = .ok (.invokevirtual 62, 3) := by decide +kernel
theorem dJ_reserve_14 : decode cJ_reserve 14 = .ok (.ifCond .eq 14, 3) := by decide +kernel
theorem dJ_reserve_17 : decode cJ_reserve 17 = .ok (.iload_n 1, 1) := by decide +kernel
theorem dJ_reserve_18 : decode cJ_reserve 18 = .ok (.aload_n 0, 1) := by decide +kernel
theorem dJ_reserve_19 : decode cJ_reserve 19 = .ok (.getfield 33, 3) := by decide +kernel
theorem dJ_reserve_22 : decode cJ_reserve 22 = .ok (.iload_n 2, 1) := by decide +kernel
theorem dJ_reserve_23 : decode cJ_reserve 23 = .ok (.iaload, 1) := by decide +kernel
theorem dJ_reserve_24 : decode cJ_reserve 24 = .ok (.iconst 1, 1) := by decide +kernel
theorem dJ_reserve_25 : decode cJ_reserve 25 = .ok (.iadd, 1) := by decide +kernel
theorem dJ_reserve_26 : decode cJ_reserve 26 = .ok (.iadd, 1) := by decide +kernel
theorem dJ_reserve_27 : decode cJ_reserve 27 = .ok (.istore_n 1, 1) := by decide +kernel
theorem dJ_reserve_28 : decode cJ_reserve 28 = .ok (.iinc 2 1, 3) := by decide +kernel
theorem dJ_reserve_31 : decode cJ_reserve 31 = .ok (.goto (-27), 3) := by decide +kernel
theorem dJ_reserve_34 : decode cJ_reserve 34 = .ok (.iload_n 1, 1) := by decide +kernel
theorem dJ_reserve_35 : decode cJ_reserve 35 = .ok (.ireturn, 1) := by decide +kernel
theorem dJ_startOfOldest_0 : decode cJ_startOfOldest 0 = .ok (.aload_n 0, 1) := by decide +kernel
theorem dJ_startOfOldest_1 : decode cJ_startOfOldest 1 = .ok (.getfield 71, 3) := by decide +kernel
theorem dJ_startOfOldest_4 : decode cJ_startOfOldest 4 = .ok (.bipush 8, 2) := by decide +kernel
theorem dJ_startOfOldest_6 : decode cJ_startOfOldest 6 = .ok (.imul, 1) := by decide +kernel
theorem dJ_startOfOldest_7 : decode cJ_startOfOldest 7 = .ok (.iconst 1, 1) := by decide +kernel
theorem dJ_startOfOldest_8 : decode cJ_startOfOldest 8 = .ok (.iadd, 1) := by decide +kernel
theorem dJ_startOfOldest_9 : decode cJ_startOfOldest 9 = .ok (.ireturn, 1) := by decide +kernel
theorem dJ_endOfOldest_0 : decode cJ_endOfOldest 0 = .ok (.aload_n 0, 1) := by decide +kernel
theorem dJ_endOfOldest_1 : decode cJ_endOfOldest 1 = .ok (.getfield 71, 3) := by decide +kernel
theorem dJ_endOfOldest_4 : decode cJ_endOfOldest 4 = .ok (.iconst 1, 1) := by decide +kernel
theorem dJ_endOfOldest_5 : decode cJ_endOfOldest 5 = .ok (.iadd, 1) := by decide +kernel
theorem dJ_endOfOldest_6 : decode cJ_endOfOldest 6 = .ok (.bipush 8, 2) := by decide +kernel
theorem dJ_endOfOldest_8 : decode cJ_endOfOldest 8 = .ok (.imul, 1) := by decide +kernel
theorem dJ_endOfOldest_9 : decode cJ_endOfOldest 9 = .ok (.ireturn, 1) := by decide +kernel
theorem dJ_isKept_0 : decode cJ_isKept 0 = .ok (.iload_n 1, 1) := by decide +kernel
theorem dJ_isKept_1 : decode cJ_isKept 1 = .ok (.aload_n 0, 1) := by decide +kernel
theorem dJ_isKept_2 : decode cJ_isKept 2 = .ok (.invokevirtual 54, 3) := by decide +kernel
theorem dJ_isKept_5 : decode cJ_isKept 5 = .ok (.if_icmp .lt 15, 3) := by decide +kernel
theorem dJ_isKept_8 : decode cJ_isKept 8 = .ok (.iload_n 1, 1) := by decide +kernel
theorem dJ_isKept_9 : decode cJ_isKept 9 = .ok (.aload_n 0, 1) := by decide +kernel
theorem dJ_isKept_10 : decode cJ_isKept 10 = .ok (.getfield 39, 3) := by decide +kernel
theorem dJ_isKept_13 : decode cJ_isKept 13 = .ok (.if_icmp .gt 7, 3) := by decide +kernel
theorem dJ_isKept_16 : decode cJ_isKept 16 = .ok (.iconst 1, 1) := by decide +kernel
theorem dJ_isKept_17 : decode cJ_isKept 17 = .ok (.goto 4, 3) := by decide +kernel
theorem dJ_isKept_20 : decode cJ_isKept 20 = .ok (.iconst 0, 1) := by decide +kernel
theorem dJ_isKept_21 : decode cJ_isKept 21 = .ok (.ireturn, 1) := by decide +kernel
theorem dJ_canDropOldest_0 : decode cJ_canDropOldest 0 = .ok (.iconst 0, 1) := by decide +kernel
theorem dJ_canDropOldest_1 : decode cJ_canDropOldest 1 = .ok (.istore_n 1, 1) := by decide +kernel
theorem dJ_canDropOldest_2 : decode cJ_canDropOldest 2 = .ok (.iload_n 1, 1) := by decide +kernel
theorem dJ_canDropOldest_3 : decode cJ_canDropOldest 3 = .ok (.iconst 3, 1) := by decide +kernel
theorem dJ_canDropOldest_4 : decode cJ_canDropOldest 4 = .ok (.if_icmp .ge 32, 3) := by decide +kernel
theorem dJ_canDropOldest_7 : decode cJ_canDropOldest 7 = .ok (.aload_n 0, 1) := by decide +kernel
theorem dJ_canDropOldest_8 : decode cJ_canDropOldest 8 = .ok (.iload_n 1, 1) := by decide +kernel
theorem dJ_canDropOldest_9 : decode cJ_canDropOldest 9 = .ok (.invokevirtual 62, 3) := by decide +kernel
theorem dJ_canDropOldest_12 : decode cJ_canDropOldest 12 = .ok (.ifCond .eq 18, 3) := by decide +kernel
theorem dJ_canDropOldest_15 : decode cJ_canDropOldest 15 = .ok (.aload_n 0, 1) := by decide +kernel
theorem dJ_canDropOldest_16 : decode cJ_canDropOldest 16 = .ok (.getfield 30, 3) := by decide +kernel
theorem dJ_canDropOldest_19 : decode cJ_canDropOldest 19 = .ok (.iload_n 1, 1) := by decide +kernel
theorem dJ_canDropOldest_20 : decode cJ_canDropOldest 20 = .ok (.iaload, 1) := by decide +kernel
theorem dJ_canDropOldest_21 : decode cJ_canDropOldest 21 = .ok (.aload_n 0, 1) := by decide +kernel
theorem dJ_canDropOldest_22 : decode cJ_canDropOldest 22 = .ok (.invokevirtual 80, 3) := by decide +kernel
theorem dJ_canDropOldest_25 : decode cJ_canDropOldest 25 = .ok (.if_icmp .gt 5, 3) := by decide +kernel
theorem dJ_canDropOldest_28 : decode cJ_canDropOldest 28 = .ok (.iconst 0, 1) := by decide +kernel
theorem dJ_canDropOldest_29 : decode cJ_canDropOldest 29 = .ok (.ireturn, 1) := by decide +kernel
theorem dJ_canDropOldest_30 : decode cJ_canDropOldest 30 = .ok (.iinc 1 1, 3) := by decide +kernel
theorem dJ_canDropOldest_33 : decode cJ_canDropOldest 33 = .ok (.goto (-31), 3) := by decide +kernel
theorem dJ_canDropOldest_36 : decode cJ_canDropOldest 36 = .ok (.aload_n 0, 1) := by decide +kernel
theorem dJ_canDropOldest_37 : decode cJ_canDropOldest 37 = .ok (.invokevirtual 80, 3) := by decide +kernel
theorem dJ_canDropOldest_40 : decode cJ_canDropOldest 40 = .ok (.aload_n 0, 1) := by decide +kernel
theorem dJ_canDropOldest_41 : decode cJ_canDropOldest 41 = .ok (.getfield 39, 3) := by decide +kernel
theorem dJ_canDropOldest_44 : decode cJ_canDropOldest 44 = .ok (.if_icmp .gt 7, 3) := by decide +kernel
theorem dJ_canDropOldest_47 : decode cJ_canDropOldest 47 = .ok (.iconst 1, 1) := by decide +kernel
theorem dJ_canDropOldest_48 : decode cJ_canDropOldest 48 = .ok (.goto 4, 3) := by decide +kernel
theorem dJ_canDropOldest_51 : decode cJ_canDropOldest 51 = .ok (.iconst 0, 1) := by decide +kernel
theorem dJ_canDropOldest_52 : decode cJ_canDropOldest 52 = .ok (.ireturn, 1) := by decide +kernel
theorem dJ_isChangeOf_0 : decode cJ_isChangeOf 0 = .ok (.aload_n 0, 1) := by decide +kernel
theorem dJ_isChangeOf_1 : decode cJ_isChangeOf 1 = .ok (.getfield 9, 3) := by decide +kernel
theorem dJ_isChangeOf_4 : decode cJ_isChangeOf 4 = .ok (.iload_n 2, 1) := by decide +kernel
theorem dJ_isChangeOf_5 : decode cJ_isChangeOf 5 = .ok (.iaload, 1) := by decide +kernel
theorem dJ_isChangeOf_6 : decode cJ_isChangeOf 6 = .ok (.iconst 1, 1) := by decide +kernel
theorem dJ_isChangeOf_7 : decode cJ_isChangeOf 7 = .ok (.if_icmp .ne 20, 3) := by decide +kernel
theorem dJ_isChangeOf_10 : decode cJ_isChangeOf 10 = .ok (.aload_n 0, 1) := by decide +kernel
theorem dJ_isChangeOf_11 : decode cJ_isChangeOf 11 = .ok (.getfield 18, 3) := by decide +kernel
theorem dJ_isChangeOf_14 : decode cJ_isChangeOf 14 = .ok (.iload_n 2, 1) := by decide +kernel
theorem dJ_isChangeOf_15 : decode cJ_isChangeOf 15 = .ok (.iaload, 1) := by decide +kernel
theorem dJ_isChangeOf_16 : decode cJ_isChangeOf 16 = .ok (.invokestatic 43, 3) := by decide +kernel
theorem dJ_isChangeOf_19 : decode cJ_isChangeOf 19 = .ok (.iload_n 1, 1) := by decide +kernel
theorem dJ_isChangeOf_20 : decode cJ_isChangeOf 20 = .ok (.if_icmp .ne 7, 3) := by decide +kernel
theorem dJ_isChangeOf_23 : decode cJ_isChangeOf 23 = .ok (.iconst 1, 1) := by decide +kernel
theorem dJ_isChangeOf_24 : decode cJ_isChangeOf 24 = .ok (.goto 4, 3) := by decide +kernel
theorem dJ_isChangeOf_27 : decode cJ_isChangeOf 27 = .ok (.iconst 0, 1) := by decide +kernel
theorem dJ_isChangeOf_28 : decode cJ_isChangeOf 28 = .ok (.ireturn, 1) := by decide +kernel
theorem dJ_keepsChangesOf_0 : decode cJ_keepsChangesOf 0 = .ok (.iload_n 2, 1) := by decide +kernel
theorem dJ_keepsChangesOf_1 : decode cJ_keepsChangesOf 1 = .ok (.iconst 1, 1) := by decide +kernel
theorem dJ_keepsChangesOf_2 : decode cJ_keepsChangesOf 2 = .ok (.iadd, 1) := by decide +kernel
theorem dJ_keepsChangesOf_3 : decode cJ_keepsChangesOf 3 = .ok (.istore 4, 2) := by decide +kernel
theorem dJ_keepsChangesOf_5 : decode cJ_keepsChangesOf 5 = .ok (.iload 4, 2) := by decide +kernel
theorem dJ_keepsChangesOf_7 : decode cJ_keepsChangesOf 7 = .ok (.iload_n 3, 1) := by decide +kernel
theorem dJ_keepsChangesOf_8 : decode cJ_keepsChangesOf 8 = .ok (.if_icmp .gt 30, 3) := by decide +kernel
theorem dJ_keepsChangesOf_11 : decode cJ_keepsChangesOf 11 = .ok (.aload_n 0, 1) := by decide +kernel
theorem dJ_keepsChangesOf_12 : decode cJ_keepsChangesOf 12 = .ok (.iload_n 1, 1) := by decide +kernel
theorem dJ_keepsChangesOf_13 : decode cJ_keepsChangesOf 13 = .ok (.iload 4, 2) := by decide +kernel
theorem dJ_keepsChangesOf_15 : decode cJ_keepsChangesOf 15 = .ok (.invokevirtual 83, 3) := by decide +kernel
theorem dJ_keepsChangesOf_18 : decode cJ_keepsChangesOf 18 = .ok (.ifCond .eq 14, 3) := by decide +kernel
theorem dJ_keepsChangesOf_21 : decode cJ_keepsChangesOf 21 = .ok (.aload_n 0, 1) := by decide +kernel
theorem dJ_keepsChangesOf_22 : decode cJ_keepsChangesOf 22 = .ok (.iload 4, 2) := by decide +kernel
theorem dJ_keepsChangesOf_24 : decode cJ_keepsChangesOf 24 = .ok (.invokevirtual 86, 3) := by decide +kernel
theorem dJ_keepsChangesOf_27 : decode cJ_keepsChangesOf 27 = .ok (.ifCond .ne 5, 3) := by decide +kernel
theorem dJ_keepsChangesOf_30 : decode cJ_keepsChangesOf 30 = .ok (.iconst 0, 1) := by decide +kernel
theorem dJ_keepsChangesOf_31 : decode cJ_keepsChangesOf 31 = .ok (.ireturn, 1) := by decide +kernel
theorem dJ_keepsChangesOf_32 : decode cJ_keepsChangesOf 32 = .ok (.iinc 4 1, 3) := by decide +kernel
theorem dJ_keepsChangesOf_35 : decode cJ_keepsChangesOf 35 = .ok (.goto (-30), 3) := by decide +kernel
theorem dJ_keepsChangesOf_38 : decode cJ_keepsChangesOf 38 = .ok (.iconst 1, 1) := by decide +kernel
theorem dJ_keepsChangesOf_39 : decode cJ_keepsChangesOf 39 = .ok (.ireturn, 1) := by decide +kernel
end
section
def rmJ_isCycleOpen : Room := { frames := 0, cells := 0, slots := 0, locals := 0 }
def mJ_isCycleOpen (σ : JS) (x1 : Int32) : Option (Int32) :=
  jrd σ 12 4 x1 fun v1 =>
  if v1 ≤ 0 then
  (some (0 : Int32))
  else
  (some (1 : Int32))
set_option maxHeartbeats 4000000 in
set_option maxRecDepth 100000 in
theorem bJ_isCycleOpen {p : Program} {l : Launch} {e : Env} {s : State} {m : MethodId} {args : Array Value} {below : List Frame} {meth : Method} {c : Code} {D : va_G} {ca : Nat → ClassId} {ad : Nat → Nat} {A : Nat → Prop} (hA : ∀ q, s.heap.size ≤ q → A q) (S : CallFix p m c cJ_isCycleOpen 2 s args jall RJ) (hN : xN A s) (hr : meth.sig.returnType = some .boolean) (hlk : meth.locks = false) (out : Int32) (σ : JS) (x1 : Int32) (ls : Array Slot) (H : Heap) (locs : List Loc) (hl : lv_has ls 2 [(0, .ref (ad 1)), (1, .int x1)]) (hw : jH D (xT ca) (xC ca ad σ) A s.heap H locs s) (hf : mJ_isCycleOpen σ x1 = some out) : W p l e (headSpec wsJ_isCycleOpen rmJ_isCycleOpen).room s m args below meth c H locs 0 0 (MQ below (jQi D (xT ca) (xC ca ad) A out σ) args s 0 0 A) (F0 m 0 ls []) := by
  have hx := S.1
  have hb := S.2.1
  unfold mJ_isCycleOpen at hf
  refine lv_aload_n (pc := 0) hx hb dJ_isCycleOpen_0 rfl (lv_at hl 0 rfl) ?_
  refine j_get (pc := 1) (v := .ref (ad 12)) S hw inJ 1 1 6 xg_1 rfl (by decide) k_45 rfl dJ_isCycleOpen_1 ?_
  refine lv_iload_n (pc := 4) hx hb dJ_isCycleOpen_4 rfl (lv_at hl 1 rfl) ?_
  have hg := jrd_e hf; clear hf; obtain ⟨h2, v1, e3, hf⟩ := hg
  refine j_iald (pc := 5) S hw 12 6 xg_12 xt_12 h2 e3 dJ_isCycleOpen_5 ?_
  refine lv_if_le (pc := 6) (tgt := 13) hx hb dJ_isCycleOpen_6 (by decide) (fun hc => ?_) (fun hc => ?_)
  · replace hf := jit hf hc
    refine lv_iconst (pc := 13) (v := (0 : Int32)) hx hb dJ_isCycleOpen_13 (by decide) ?_
    obtain rfl := jsm hf
    exact j_zret (pc := 14) S hw hr hlk (by decide) dJ_isCycleOpen_14
  · replace hf := jif hf hc
    refine lv_iconst (pc := 9) (v := (1 : Int32)) hx hb dJ_isCycleOpen_9 (by decide) ?_
    refine lv_goto (pc := 10) (tgt := 14) hx hb dJ_isCycleOpen_10 (by decide) ?_
    obtain rfl := jsm hf
    exact j_zret (pc := 14) S hw hr hlk (by decide) dJ_isCycleOpen_14
set_option maxHeartbeats 4000000 in
set_option maxRecDepth 100000 in
theorem kJ_isCycleOpen (l : Launch) (D : va_G) (ca : Nat → ClassId) (ad : Nat → Nat) (sz : Nat) (σ : JS) (x1 : Int32) (out : Int32) (hf : mJ_isCycleOpen σ x1 = some out) : Met l yJ_isCycleOpen wsJ_isCycleOpen rmJ_isCycleOpen (jPre D (xT ca) (xC ca ad σ) (xN (va_A (xC ca ad σ) sz)) sz [.ref (ad 1), .int x1]) (jQi D (xT ca) (xC ca ad) (va_A (xC ca ad σ) sz) out σ) 0 0 (va_A (xC ca ad σ) sz) := by
  refine Met.ofW (cc := cJ_isCycleOpen) (maxL := 2) (ret := some .boolean) (by decide) rfl ?_
  intro p e s m args below meth c s₁ B hml hv
  obtain ⟨rfl, hsz, hP, hK, hD0, hN⟩ := hv
  subst hsz
  have hl := lv_entry [.ref (ad 1), .int x1] (n := 2) (Nat.le_of_ble_eq_true rfl)
  rw [lg_entry_eq]
  generalize (lg_sl [.ref (ad 1), .int x1] ++ List.replicate (2 - (lg_sl [.ref (ad 1), .int x1]).length) Slot.unset).toArray = ls at hl ⊢
  exact bJ_isCycleOpen (fun q h => Or.inr h) ⟨B.exec, B.bytes, hml, findClass_of_methodNamed B.named, fun w h => atoms_spec (ws := wsJ_isCycleOpen) B.pre w (List.mem_cons_of_mem _ h)⟩ hN B.returns B.notSynchronized out σ x1 ls _ _ hl ⟨hP, hD0.self, va_S.rf, hK⟩ hf

def rmJ_noteOpenFiles : Room := { frames := 0, cells := 0, slots := 0, locals := 0 }
def mJ_noteOpenFiles_L4 (k : Int32 → Int32 → Option (JS)) (σ : JS) : Nat → Int32 → Int32 → Option (JS)
  | 0, _, _ => none
  | n + 1, x1, x2 =>
    if (3 : Int32) < x2 then
    (k x1 x2)
    else
    (jrd σ 14 4 x2 fun v1 =>
    mJ_noteOpenFiles_L4 k σ n (x1 ||| v1) (x2 + 1))
def mJ_noteOpenFiles (σ : JS)  : Option (JS) :=
  mJ_noteOpenFiles_L4 (fun z4 z5 =>
  jwr σ 11 121 (σ 100 0) z4 fun σ6 =>
  some σ6) σ 999 (0 : Int32) (0 : Int32)
set_option maxHeartbeats 4000000 in
set_option maxRecDepth 100000 in
theorem wmJ_noteOpenFiles_L4 {p : Program} {l : Launch} {e : Env} {s : State} {m : MethodId} {args : Array Value} {below : List Frame} {meth : Method} {c : Code} {D : va_G} {ca : Nat → ClassId} {ad : Nat → Nat} {A : Nat → Prop} (hA : ∀ q, s.heap.size ≤ q → A q) (S : CallFix p m c cJ_noteOpenFiles 3 s args jall RJ) (hN : xN A s) (hr : meth.sig.returnType = none) (hlk : meth.locks = false) (out : JS) (k : Int32 → Int32 → Option (JS)) (σ : JS) (hk : ∀ (x1 : Int32) (x2 : Int32) (ls : Array Slot) (H : Heap) (locs : List Loc), lv_has ls 3 [(0, .ref (ad 1)), (1, .int x1), (2, .int x2)] → jH D (xT ca) (xC ca ad σ) A s.heap H locs s → k x1 x2 = some out → W p l e (headSpec wsJ_noteOpenFiles rmJ_noteOpenFiles).room s m args below meth c H locs 0 0 (MQ below (jQv D (xT ca) (xC ca ad) A out) args s 0 0 A) (F0 m 24 ls [])) : ∀ (n : Nat) (x1 : Int32) (x2 : Int32) (ls : Array Slot) (H : Heap) (locs : List Loc), lv_has ls 3 [(0, .ref (ad 1)), (1, .int x1), (2, .int x2)] → jH D (xT ca) (xC ca ad σ) A s.heap H locs s → mJ_noteOpenFiles_L4 k σ n x1 x2 = some out → W p l e (headSpec wsJ_noteOpenFiles rmJ_noteOpenFiles).room s m args below meth c H locs 0 0 (MQ below (jQv D (xT ca) (xC ca ad) A out) args s 0 0 A) (F0 m 4 ls []) := by
  have hx := S.1
  have hb := S.2.1
  intro n
  induction n with
  | zero => intro x1 x2 ls H locs hl hw hf; cases hf
  | succ n ih =>
    intro x1 x2 ls H locs hl hw hf
    rw [mJ_noteOpenFiles_L4] at hf
    refine lv_iload_n (pc := 4) hx hb dJ_noteOpenFiles_4 rfl (lv_at hl 2 rfl) ?_
    refine lv_iconst (pc := 5) (v := (3 : Int32)) hx hb dJ_noteOpenFiles_5 (by decide) ?_
    refine lv_icmp_gt (pc := 6) (tgt := 24) hx hb dJ_noteOpenFiles_6 (by decide) (fun hc => ?_) (fun hc => ?_)
    · replace hf := jit hf hc
      exact hk x1 x2 _ _ _ (lv_sub hl [0, 1, 2] rfl) hw hf
    · replace hf := jif hf hc
      refine lv_iload_n (pc := 9) hx hb dJ_noteOpenFiles_9 rfl (lv_at hl 1 rfl) ?_
      refine lv_aload_n (pc := 10) hx hb dJ_noteOpenFiles_10 rfl (lv_at hl 0 rfl) ?_
      refine j_get (pc := 11) (v := .ref (ad 14)) S hw inJ 1 1 8 xg_1 rfl (by decide) k_48 rfl dJ_noteOpenFiles_11 ?_
      refine lv_iload_n (pc := 14) hx hb dJ_noteOpenFiles_14 rfl (lv_at hl 2 rfl) ?_
      have hg := jrd_e hf; clear hf; obtain ⟨h2, v1, e3, hf⟩ := hg
      refine j_iald (pc := 15) S hw 14 8 xg_14 xt_14 h2 e3 dJ_noteOpenFiles_15 ?_
      refine lv_ior (pc := 16) hx hb dJ_noteOpenFiles_16 ?_
      refine lv_istore_n (pc := 17) (lv' := [(1, .int (x1 ||| v1)), (0, .ref (ad 1)), (2, .int x2)]) hx hb dJ_noteOpenFiles_17 rfl hl (by decide) rfl (fun ls hl => ?_)
      refine lv_iinc (pc := 18) (v := (x2 + 1)) (k := 2) (lv' := [(2, .int (x2 + 1)), (1, .int (x1 ||| v1)), (0, .ref (ad 1))]) hx hb dJ_noteOpenFiles_18 hl rfl (j_inc _ (by decide)) (by decide) rfl (fun ls hl => ?_)
      refine lv_goto (pc := 21) (tgt := 4) hx hb dJ_noteOpenFiles_21 (by decide) ?_
      exact ih (x1 ||| v1) (x2 + 1) _ _ _ (lv_sub hl [2, 1, 0] rfl) hw hf
set_option maxHeartbeats 4000000 in
set_option maxRecDepth 100000 in
theorem bJ_noteOpenFiles {p : Program} {l : Launch} {e : Env} {s : State} {m : MethodId} {args : Array Value} {below : List Frame} {meth : Method} {c : Code} {D : va_G} {ca : Nat → ClassId} {ad : Nat → Nat} {A : Nat → Prop} (hA : ∀ q, s.heap.size ≤ q → A q) (S : CallFix p m c cJ_noteOpenFiles 3 s args jall RJ) (hN : xN A s) (hr : meth.sig.returnType = none) (hlk : meth.locks = false) (out : JS) (σ : JS)  (ls : Array Slot) (H : Heap) (locs : List Loc) (hl : lv_has ls 3 [(0, .ref (ad 1))]) (hw : jH D (xT ca) (xC ca ad σ) A s.heap H locs s) (hf : mJ_noteOpenFiles σ  = some out) : W p l e (headSpec wsJ_noteOpenFiles rmJ_noteOpenFiles).room s m args below meth c H locs 0 0 (MQ below (jQv D (xT ca) (xC ca ad) A out) args s 0 0 A) (F0 m 0 ls []) := by
  have hx := S.1
  have hb := S.2.1
  unfold mJ_noteOpenFiles at hf
  refine lv_iconst (pc := 0) (v := (0 : Int32)) hx hb dJ_noteOpenFiles_0 (by decide) ?_
  refine lv_istore_n (pc := 1) (lv' := [(1, .int (0 : Int32)), (0, .ref (ad 1))]) hx hb dJ_noteOpenFiles_1 rfl hl (by decide) rfl (fun ls hl => ?_)
  refine lv_iconst (pc := 2) (v := (0 : Int32)) hx hb dJ_noteOpenFiles_2 (by decide) ?_
  refine lv_istore_n (pc := 3) (lv' := [(2, .int (0 : Int32)), (1, .int (0 : Int32)), (0, .ref (ad 1))]) hx hb dJ_noteOpenFiles_3 rfl hl (by decide) rfl (fun ls hl => ?_)
  refine wmJ_noteOpenFiles_L4 hA S hN hr hlk out _ σ (fun z4 z5 ls H locs hl hw hf => ?_) 999 (0 : Int32) (0 : Int32) _ _ _ (lv_sub hl [2, 1, 0] rfl) hw hf
  try dsimp only at hf
  refine lv_aload_n (pc := 24) hx hb dJ_noteOpenFiles_24 rfl (lv_at hl 0 rfl) ?_
  refine j_get (pc := 25) (v := .ref (ad 11)) S hw inJ 1 1 5 xg_1 rfl (by decide) k_44 rfl dJ_noteOpenFiles_25 ?_
  refine lv_aload_n (pc := 28) hx hb dJ_noteOpenFiles_28 rfl (lv_at hl 0 rfl) ?_
  refine j_get (pc := 29) (v := .int (σ 100 0)) S hw inJ 1 1 9 xg_1 rfl (by decide) k_49 rfl dJ_noteOpenFiles_29 ?_
  refine lv_iload_n (pc := 32) hx hb dJ_noteOpenFiles_32 rfl (lv_at hl 1 rfl) ?_
  have hg := jwr_e hf; clear hf; obtain ⟨h7, σ6, e8, hf⟩ := hg
  refine j_iast (pc := 33) (ws' := xC ca ad σ6) S hw 11 5 xg_11 xt_11 h7 (by rw [e8]; exact xs_11) dJ_noteOpenFiles_33 (fun H locs hw => ?_)
  obtain rfl := jsm hf
  exact j_vret (pc := 34) S hw hr hlk dJ_noteOpenFiles_34
set_option maxHeartbeats 4000000 in
set_option maxRecDepth 100000 in
theorem kJ_noteOpenFiles (l : Launch) (D : va_G) (ca : Nat → ClassId) (ad : Nat → Nat) (sz : Nat) (σ : JS)  (out : JS) (hf : mJ_noteOpenFiles σ  = some out) : Met l yJ_noteOpenFiles wsJ_noteOpenFiles rmJ_noteOpenFiles (jPre D (xT ca) (xC ca ad σ) (xN (va_A (xC ca ad σ) sz)) sz [.ref (ad 1)]) (jQv D (xT ca) (xC ca ad) (va_A (xC ca ad σ) sz) out) 0 0 (va_A (xC ca ad σ) sz) := by
  refine Met.ofW (cc := cJ_noteOpenFiles) (maxL := 3) (ret := none) (by decide) rfl ?_
  intro p e s m args below meth c s₁ B hml hv
  obtain ⟨rfl, hsz, hP, hK, hD0, hN⟩ := hv
  subst hsz
  have hl := lv_entry [.ref (ad 1)] (n := 3) (Nat.le_of_ble_eq_true rfl)
  rw [lg_entry_eq]
  generalize (lg_sl [.ref (ad 1)] ++ List.replicate (3 - (lg_sl [.ref (ad 1)]).length) Slot.unset).toArray = ls at hl ⊢
  exact bJ_noteOpenFiles (fun q h => Or.inr h) ⟨B.exec, B.bytes, hml, findClass_of_methodNamed B.named, fun w h => atoms_spec (ws := wsJ_noteOpenFiles) B.pre w (List.mem_cons_of_mem _ h)⟩ hN B.returns B.notSynchronized out σ  ls _ _ hl ⟨hP, hD0.self, va_S.rf, hK⟩ hf

def rmJ_addEnd : Room := { frames := 1, cells := 0, slots := 0, locals := 22 }
def mJ_addEnd (σ : JS) (x1 : Int32) (x2 : Int32) : Option (JS) :=
  jst (jw2 σ 100 0 ((σ 100 0) + (1 : Int32))) fun σ1 =>
  jwr σ1 6 121 (σ1 100 0) x1 fun σ3 =>
  jwr σ3 7 121 (σ3 100 0) x2 fun σ6 =>
  jwr σ6 12 4 x2 (0 : Int32) fun σ9 =>
  jwr σ9 13 4 x2 (0 : Int32) fun σ12 =>
  jwr σ12 14 4 x2 (0 : Int32) fun σ15 =>
  jbn (mJ_noteOpenFiles σ15 ) fun q18 =>
  some q18
set_option maxHeartbeats 4000000 in
set_option maxRecDepth 100000 in
theorem bJ_addEnd {p : Program} {l : Launch} {e : Env} {s : State} {m : MethodId} {args : Array Value} {below : List Frame} {meth : Method} {c : Code} {D : va_G} {ca : Nat → ClassId} {ad : Nat → Nat} {A : Nat → Prop} (hA : ∀ q, s.heap.size ≤ q → A q) (S : CallFix p m c cJ_addEnd 3 s args jall RJ) (hN : xN A s) (hr : meth.sig.returnType = none) (hlk : meth.locks = false) (out : JS) (σ : JS) (x1 : Int32) (x2 : Int32) (ls : Array Slot) (H : Heap) (locs : List Loc) (hl : lv_has ls 3 [(0, .ref (ad 1)), (1, .int x1), (2, .int x2)]) (hw : jH D (xT ca) (xC ca ad σ) A s.heap H locs s) (hf : mJ_addEnd σ x1 x2 = some out) : W p l e (headSpec wsJ_addEnd rmJ_addEnd).room s m args below meth c H locs 0 0 (MQ below (jQv D (xT ca) (xC ca ad) A out) args s 0 0 A) (F0 m 0 ls []) := by
  have hx := S.1
  have hb := S.2.1
  unfold mJ_addEnd at hf
  refine lv_aload_n (pc := 0) hx hb dJ_addEnd_0 rfl (lv_at hl 0 rfl) ?_
  refine lv_dup (pc := 1) hx hb dJ_addEnd_1 rfl ?_
  refine j_get (pc := 2) (v := .int (σ 100 0)) S hw inJ 1 1 9 xg_1 rfl (by decide) k_49 rfl dJ_addEnd_2 ?_
  refine lv_iconst (pc := 5) (v := (1 : Int32)) hx hb dJ_addEnd_5 (by decide) ?_
  refine lv_iadd (pc := 6) hx hb dJ_addEnd_6 ?_
  have hg := jst_e hf; clear hf; obtain ⟨σ1, e2, hf⟩ := hg
  refine j_put (pc := 7) (v := .int ((σ 100 0) + (1 : Int32))) (ws' := xC ca ad σ1) S hw inJ tyJ tyJ_ok nmJ 1 1 9 xg_1 rfl (by decide) k_49 rfl rfl rfl (Nat.le_of_ble_eq_true rfl) (by rw [e2]; exact xp_0) dJ_addEnd_7 (fun H locs hw => ?_)
  refine lv_aload_n (pc := 10) hx hb dJ_addEnd_10 rfl (lv_at hl 0 rfl) ?_
  refine j_get (pc := 11) (v := .ref (ad 6)) S hw inJ 1 1 0 xg_1 rfl (by decide) k_29 rfl dJ_addEnd_11 ?_
  refine lv_aload_n (pc := 14) hx hb dJ_addEnd_14 rfl (lv_at hl 0 rfl) ?_
  refine j_get (pc := 15) (v := .int (σ1 100 0)) S hw inJ 1 1 9 xg_1 rfl (by decide) k_49 rfl dJ_addEnd_15 ?_
  refine lv_iload_n (pc := 18) hx hb dJ_addEnd_18 rfl (lv_at hl 1 rfl) ?_
  have hg := jwr_e hf; clear hf; obtain ⟨h4, σ3, e5, hf⟩ := hg
  refine j_iast (pc := 19) (ws' := xC ca ad σ3) S hw 6 0 xg_6 xt_6 h4 (by rw [e5]; exact xs_6) dJ_addEnd_19 (fun H locs hw => ?_)
  refine lv_aload_n (pc := 20) hx hb dJ_addEnd_20 rfl (lv_at hl 0 rfl) ?_
  refine j_get (pc := 21) (v := .ref (ad 7)) S hw inJ 1 1 1 xg_1 rfl (by decide) k_32 rfl dJ_addEnd_21 ?_
  refine lv_aload_n (pc := 24) hx hb dJ_addEnd_24 rfl (lv_at hl 0 rfl) ?_
  refine j_get (pc := 25) (v := .int (σ3 100 0)) S hw inJ 1 1 9 xg_1 rfl (by decide) k_49 rfl dJ_addEnd_25 ?_
  refine lv_iload_n (pc := 28) hx hb dJ_addEnd_28 rfl (lv_at hl 2 rfl) ?_
  have hg := jwr_e hf; clear hf; obtain ⟨h7, σ6, e8, hf⟩ := hg
  refine j_iast (pc := 29) (ws' := xC ca ad σ6) S hw 7 1 xg_7 xt_7 h7 (by rw [e8]; exact xs_7) dJ_addEnd_29 (fun H locs hw => ?_)
  refine lv_aload_n (pc := 30) hx hb dJ_addEnd_30 rfl (lv_at hl 0 rfl) ?_
  refine j_get (pc := 31) (v := .ref (ad 12)) S hw inJ 1 1 6 xg_1 rfl (by decide) k_45 rfl dJ_addEnd_31 ?_
  refine lv_iload_n (pc := 34) hx hb dJ_addEnd_34 rfl (lv_at hl 2 rfl) ?_
  refine lv_iconst (pc := 35) (v := (0 : Int32)) hx hb dJ_addEnd_35 (by decide) ?_
  have hg := jwr_e hf; clear hf; obtain ⟨h10, σ9, e11, hf⟩ := hg
  refine j_iast (pc := 36) (ws' := xC ca ad σ9) S hw 12 6 xg_12 xt_12 h10 (by rw [e11]; exact xs_12) dJ_addEnd_36 (fun H locs hw => ?_)
  refine lv_aload_n (pc := 37) hx hb dJ_addEnd_37 rfl (lv_at hl 0 rfl) ?_
  refine j_get (pc := 38) (v := .ref (ad 13)) S hw inJ 1 1 7 xg_1 rfl (by decide) k_47 rfl dJ_addEnd_38 ?_
  refine lv_iload_n (pc := 41) hx hb dJ_addEnd_41 rfl (lv_at hl 2 rfl) ?_
  refine lv_iconst (pc := 42) (v := (0 : Int32)) hx hb dJ_addEnd_42 (by decide) ?_
  have hg := jwr_e hf; clear hf; obtain ⟨h13, σ12, e14, hf⟩ := hg
  refine j_iast (pc := 43) (ws' := xC ca ad σ12) S hw 13 7 xg_13 xt_13 h13 (by rw [e14]; exact xs_13) dJ_addEnd_43 (fun H locs hw => ?_)
  refine lv_aload_n (pc := 44) hx hb dJ_addEnd_44 rfl (lv_at hl 0 rfl) ?_
  refine j_get (pc := 45) (v := .ref (ad 14)) S hw inJ 1 1 8 xg_1 rfl (by decide) k_48 rfl dJ_addEnd_45 ?_
  refine lv_iload_n (pc := 48) hx hb dJ_addEnd_48 rfl (lv_at hl 2 rfl) ?_
  refine lv_iconst (pc := 49) (v := (0 : Int32)) hx hb dJ_addEnd_49 (by decide) ?_
  have hg := jwr_e hf; clear hf; obtain ⟨h16, σ15, e17, hf⟩ := hg
  refine j_iast (pc := 50) (ws' := xC ca ad σ15) S hw 14 8 xg_14 xt_14 h16 (by rw [e17]; exact xs_14) dJ_addEnd_50 (fun H locs hw => ?_)
  refine lv_aload_n (pc := 51) hx hb dJ_addEnd_51 rfl (lv_at hl 0 rfl) ?_
  have hg := jbn_e hf; clear hf; obtain ⟨q18, h19, hf⟩ := hg
  refine j_callv (pc := 52) (C := xC ca ad) (σ' := q18) hw hA (va_runV (As := []) (rest := []) S (kJ_noteOpenFiles l D ca ad _ σ15  q18 h19) (cwV 0 S.2.2.2.2 (jgV k_402 k_404 ks_4 k_2 k_405) rfl rfl rfl (by decide +kernel) ⟨Nat.le_of_ble_eq_true rfl, Nat.le_of_ble_eq_true rfl⟩) (j_preV (As := []) hw xN_b (xN_to hN hw hA) rfl xg_1) rfl rfl hl.1 rfl (lv_room (Nat.le_of_ble_eq_true rfl)) dJ_addEnd_52 ⟨Nat.le_of_ble_eq_true rfl, Nat.le_of_ble_eq_true rfl⟩) (fun H locs hw => ?_)
  obtain rfl := jsm hf
  exact j_vret (pc := 55) S hw hr hlk dJ_addEnd_55
set_option maxHeartbeats 4000000 in
set_option maxRecDepth 100000 in
theorem kJ_addEnd (l : Launch) (D : va_G) (ca : Nat → ClassId) (ad : Nat → Nat) (sz : Nat) (σ : JS) (x1 : Int32) (x2 : Int32) (out : JS) (hf : mJ_addEnd σ x1 x2 = some out) : Met l yJ_addEnd wsJ_addEnd rmJ_addEnd (jPre D (xT ca) (xC ca ad σ) (xN (va_A (xC ca ad σ) sz)) sz [.ref (ad 1), .int x1, .int x2]) (jQv D (xT ca) (xC ca ad) (va_A (xC ca ad σ) sz) out) 0 0 (va_A (xC ca ad σ) sz) := by
  refine Met.ofW (cc := cJ_addEnd) (maxL := 3) (ret := none) (by decide) rfl ?_
  intro p e s m args below meth c s₁ B hml hv
  obtain ⟨rfl, hsz, hP, hK, hD0, hN⟩ := hv
  subst hsz
  have hl := lv_entry [.ref (ad 1), .int x1, .int x2] (n := 3) (Nat.le_of_ble_eq_true rfl)
  rw [lg_entry_eq]
  generalize (lg_sl [.ref (ad 1), .int x1, .int x2] ++ List.replicate (3 - (lg_sl [.ref (ad 1), .int x1, .int x2]).length) Slot.unset).toArray = ls at hl ⊢
  exact bJ_addEnd (fun q h => Or.inr h) ⟨B.exec, B.bytes, hml, findClass_of_methodNamed B.named, fun w h => atoms_spec (ws := wsJ_addEnd) B.pre w (List.mem_cons_of_mem _ h)⟩ hN B.returns B.notSynchronized out σ x1 x2 ls _ _ hl ⟨hP, hD0.self, va_S.rf, hK⟩ hf

def rmJ_isBoundary : Room := { frames := 0, cells := 0, slots := 0, locals := 0 }
def mJ_isBoundary (σ : JS) (x1 : Int32) (x2 : Int32) : Option (Int32) :=
  if x2 < 0 then
  (some (0 : Int32))
  else
  (if (σ 100 0) < x2 then
  (some (0 : Int32))
  else
  (jrd σ 11 121 x2 fun v1 =>
  if ((v1 >>> (x1 &&& 31)) &&& (1 : Int32)) = 0 then
  (some (1 : Int32))
  else
  (some (0 : Int32))))
set_option maxHeartbeats 4000000 in
set_option maxRecDepth 100000 in
theorem bJ_isBoundary {p : Program} {l : Launch} {e : Env} {s : State} {m : MethodId} {args : Array Value} {below : List Frame} {meth : Method} {c : Code} {D : va_G} {ca : Nat → ClassId} {ad : Nat → Nat} {A : Nat → Prop} (hA : ∀ q, s.heap.size ≤ q → A q) (S : CallFix p m c cJ_isBoundary 3 s args jall RJ) (hN : xN A s) (hr : meth.sig.returnType = some .boolean) (hlk : meth.locks = false) (out : Int32) (σ : JS) (x1 : Int32) (x2 : Int32) (ls : Array Slot) (H : Heap) (locs : List Loc) (hl : lv_has ls 3 [(0, .ref (ad 1)), (1, .int x1), (2, .int x2)]) (hw : jH D (xT ca) (xC ca ad σ) A s.heap H locs s) (hf : mJ_isBoundary σ x1 x2 = some out) : W p l e (headSpec wsJ_isBoundary rmJ_isBoundary).room s m args below meth c H locs 0 0 (MQ below (jQi D (xT ca) (xC ca ad) A out σ) args s 0 0 A) (F0 m 0 ls []) := by
  have hx := S.1
  have hb := S.2.1
  unfold mJ_isBoundary at hf
  refine lv_iload_n (pc := 0) hx hb dJ_isBoundary_0 rfl (lv_at hl 2 rfl) ?_
  refine lv_if_lt (pc := 1) (tgt := 29) hx hb dJ_isBoundary_1 (by decide) (fun hc => ?_) (fun hc => ?_)
  · replace hf := jit hf hc
    refine lv_iconst (pc := 29) (v := (0 : Int32)) hx hb dJ_isBoundary_29 (by decide) ?_
    obtain rfl := jsm hf
    exact j_zret (pc := 30) S hw hr hlk (by decide) dJ_isBoundary_30
  · replace hf := jif hf hc
    refine lv_iload_n (pc := 4) hx hb dJ_isBoundary_4 rfl (lv_at hl 2 rfl) ?_
    refine lv_aload_n (pc := 5) hx hb dJ_isBoundary_5 rfl (lv_at hl 0 rfl) ?_
    refine j_get (pc := 6) (v := .int (σ 100 0)) S hw inJ 1 1 9 xg_1 rfl (by decide) k_49 rfl dJ_isBoundary_6 ?_
    refine lv_icmp_gt (pc := 9) (tgt := 29) hx hb dJ_isBoundary_9 (by decide) (fun hc => ?_) (fun hc => ?_)
    · replace hf := jit hf hc
      refine lv_iconst (pc := 29) (v := (0 : Int32)) hx hb dJ_isBoundary_29 (by decide) ?_
      obtain rfl := jsm hf
      exact j_zret (pc := 30) S hw hr hlk (by decide) dJ_isBoundary_30
    · replace hf := jif hf hc
      refine lv_aload_n (pc := 12) hx hb dJ_isBoundary_12 rfl (lv_at hl 0 rfl) ?_
      refine j_get (pc := 13) (v := .ref (ad 11)) S hw inJ 1 1 5 xg_1 rfl (by decide) k_44 rfl dJ_isBoundary_13 ?_
      refine lv_iload_n (pc := 16) hx hb dJ_isBoundary_16 rfl (lv_at hl 2 rfl) ?_
      have hg := jrd_e hf; clear hf; obtain ⟨h2, v1, e3, hf⟩ := hg
      refine j_iald (pc := 17) S hw 11 5 xg_11 xt_11 h2 e3 dJ_isBoundary_17 ?_
      refine lv_iload_n (pc := 18) hx hb dJ_isBoundary_18 rfl (lv_at hl 1 rfl) ?_
      refine lv_ishr (pc := 19) hx hb dJ_isBoundary_19 ?_
      refine lv_iconst (pc := 20) (v := (1 : Int32)) hx hb dJ_isBoundary_20 (by decide) ?_
      refine lv_iand (pc := 21) hx hb dJ_isBoundary_21 ?_
      refine lv_if_ne (pc := 22) (tgt := 29) hx hb dJ_isBoundary_22 (by decide) (fun hc => ?_) (fun hc => ?_)
      · replace hf := jif hf hc
        refine lv_iconst (pc := 29) (v := (0 : Int32)) hx hb dJ_isBoundary_29 (by decide) ?_
        obtain rfl := jsm hf
        exact j_zret (pc := 30) S hw hr hlk (by decide) dJ_isBoundary_30
      · replace hf := jit hf hc
        refine lv_iconst (pc := 25) (v := (1 : Int32)) hx hb dJ_isBoundary_25 (by decide) ?_
        refine lv_goto (pc := 26) (tgt := 30) hx hb dJ_isBoundary_26 (by decide) ?_
        obtain rfl := jsm hf
        exact j_zret (pc := 30) S hw hr hlk (by decide) dJ_isBoundary_30
set_option maxHeartbeats 4000000 in
set_option maxRecDepth 100000 in
theorem kJ_isBoundary (l : Launch) (D : va_G) (ca : Nat → ClassId) (ad : Nat → Nat) (sz : Nat) (σ : JS) (x1 : Int32) (x2 : Int32) (out : Int32) (hf : mJ_isBoundary σ x1 x2 = some out) : Met l yJ_isBoundary wsJ_isBoundary rmJ_isBoundary (jPre D (xT ca) (xC ca ad σ) (xN (va_A (xC ca ad σ) sz)) sz [.ref (ad 1), .int x1, .int x2]) (jQi D (xT ca) (xC ca ad) (va_A (xC ca ad σ) sz) out σ) 0 0 (va_A (xC ca ad σ) sz) := by
  refine Met.ofW (cc := cJ_isBoundary) (maxL := 3) (ret := some .boolean) (by decide) rfl ?_
  intro p e s m args below meth c s₁ B hml hv
  obtain ⟨rfl, hsz, hP, hK, hD0, hN⟩ := hv
  subst hsz
  have hl := lv_entry [.ref (ad 1), .int x1, .int x2] (n := 3) (Nat.le_of_ble_eq_true rfl)
  rw [lg_entry_eq]
  generalize (lg_sl [.ref (ad 1), .int x1, .int x2] ++ List.replicate (3 - (lg_sl [.ref (ad 1), .int x1, .int x2]).length) Slot.unset).toArray = ls at hl ⊢
  exact bJ_isBoundary (fun q h => Or.inr h) ⟨B.exec, B.bytes, hml, findClass_of_methodNamed B.named, fun w h => atoms_spec (ws := wsJ_isBoundary) B.pre w (List.mem_cons_of_mem _ h)⟩ hN B.returns B.notSynchronized out σ x1 x2 ls _ _ hl ⟨hP, hD0.self, va_S.rf, hK⟩ hf

def rmJ_isCycleOn : Room := { frames := 1, cells := 0, slots := 0, locals := 22 }
def mJ_isCycleOn (σ : JS) (x1 : Int32) : Option (Int32) :=
  jbn (mJ_isBoundary σ x1 (σ 100 0)) fun q1 =>
  if q1 = 0 then
  (some (1 : Int32))
  else
  (some (0 : Int32))
set_option maxHeartbeats 4000000 in
set_option maxRecDepth 100000 in
theorem bJ_isCycleOn {p : Program} {l : Launch} {e : Env} {s : State} {m : MethodId} {args : Array Value} {below : List Frame} {meth : Method} {c : Code} {D : va_G} {ca : Nat → ClassId} {ad : Nat → Nat} {A : Nat → Prop} (hA : ∀ q, s.heap.size ≤ q → A q) (S : CallFix p m c cJ_isCycleOn 2 s args jall RJ) (hN : xN A s) (hr : meth.sig.returnType = some .boolean) (hlk : meth.locks = false) (out : Int32) (σ : JS) (x1 : Int32) (ls : Array Slot) (H : Heap) (locs : List Loc) (hl : lv_has ls 2 [(0, .ref (ad 1)), (1, .int x1)]) (hw : jH D (xT ca) (xC ca ad σ) A s.heap H locs s) (hf : mJ_isCycleOn σ x1 = some out) : W p l e (headSpec wsJ_isCycleOn rmJ_isCycleOn).room s m args below meth c H locs 0 0 (MQ below (jQi D (xT ca) (xC ca ad) A out σ) args s 0 0 A) (F0 m 0 ls []) := by
  have hx := S.1
  have hb := S.2.1
  unfold mJ_isCycleOn at hf
  refine lv_aload_n (pc := 0) hx hb dJ_isCycleOn_0 rfl (lv_at hl 0 rfl) ?_
  refine lv_iload_n (pc := 1) hx hb dJ_isCycleOn_1 rfl (lv_at hl 1 rfl) ?_
  refine lv_aload_n (pc := 2) hx hb dJ_isCycleOn_2 rfl (lv_at hl 0 rfl) ?_
  refine j_get (pc := 3) (v := .int (σ 100 0)) S hw inJ 1 1 9 xg_1 rfl (by decide) k_49 rfl dJ_isCycleOn_3 ?_
  have hg := jbn_e hf; clear hf; obtain ⟨q1, h2, hf⟩ := hg
  refine j_calli (pc := 6) (C := xC ca ad) (σ' := σ) (v := q1) hw hA (va_runV (As := [.int x1, .int (σ 100 0)]) (rest := []) S (kJ_isBoundary l D ca ad _ σ x1 (σ 100 0) q1 h2) (cwV 2 S.2.2.2.2 (jgV k_448 k_232 k_233 k_2 k_234) rfl rfl rfl (by decide +kernel) ⟨Nat.le_of_ble_eq_true rfl, Nat.le_of_ble_eq_true rfl⟩) (j_preV (As := [.int x1, .int (σ 100 0)]) hw xN_b (xN_to hN hw hA) rfl xg_1) rfl rfl hl.1 rfl (lv_room (Nat.le_of_ble_eq_true rfl)) dJ_isCycleOn_6 ⟨Nat.le_of_ble_eq_true rfl, Nat.le_of_ble_eq_true rfl⟩) (fun H locs hw => ?_)
  refine lv_if_ne (pc := 9) (tgt := 16) hx hb dJ_isCycleOn_9 (by decide) (fun hc => ?_) (fun hc => ?_)
  · replace hf := jif hf hc
    refine lv_iconst (pc := 16) (v := (0 : Int32)) hx hb dJ_isCycleOn_16 (by decide) ?_
    obtain rfl := jsm hf
    exact j_zret (pc := 17) S hw hr hlk (by decide) dJ_isCycleOn_17
  · replace hf := jit hf hc
    refine lv_iconst (pc := 12) (v := (1 : Int32)) hx hb dJ_isCycleOn_12 (by decide) ?_
    refine lv_goto (pc := 13) (tgt := 17) hx hb dJ_isCycleOn_13 (by decide) ?_
    obtain rfl := jsm hf
    exact j_zret (pc := 17) S hw hr hlk (by decide) dJ_isCycleOn_17
set_option maxHeartbeats 4000000 in
set_option maxRecDepth 100000 in
theorem kJ_isCycleOn (l : Launch) (D : va_G) (ca : Nat → ClassId) (ad : Nat → Nat) (sz : Nat) (σ : JS) (x1 : Int32) (out : Int32) (hf : mJ_isCycleOn σ x1 = some out) : Met l yJ_isCycleOn wsJ_isCycleOn rmJ_isCycleOn (jPre D (xT ca) (xC ca ad σ) (xN (va_A (xC ca ad σ) sz)) sz [.ref (ad 1), .int x1]) (jQi D (xT ca) (xC ca ad) (va_A (xC ca ad σ) sz) out σ) 0 0 (va_A (xC ca ad σ) sz) := by
  refine Met.ofW (cc := cJ_isCycleOn) (maxL := 2) (ret := some .boolean) (by decide) rfl ?_
  intro p e s m args below meth c s₁ B hml hv
  obtain ⟨rfl, hsz, hP, hK, hD0, hN⟩ := hv
  subst hsz
  have hl := lv_entry [.ref (ad 1), .int x1] (n := 2) (Nat.le_of_ble_eq_true rfl)
  rw [lg_entry_eq]
  generalize (lg_sl [.ref (ad 1), .int x1] ++ List.replicate (2 - (lg_sl [.ref (ad 1), .int x1]).length) Slot.unset).toArray = ls at hl ⊢
  exact bJ_isCycleOn (fun q h => Or.inr h) ⟨B.exec, B.bytes, hml, findClass_of_methodNamed B.named, fun w h => atoms_spec (ws := wsJ_isCycleOn) B.pre w (List.mem_cons_of_mem _ h)⟩ hN B.returns B.notSynchronized out σ x1 ls _ _ hl ⟨hP, hD0.self, va_S.rf, hK⟩ hf

def rmJ_startOfOldest : Room := { frames := 0, cells := 0, slots := 0, locals := 0 }
def mJ_startOfOldest (σ : JS)  : Option (Int32) :=
  some (((σ 100 1) * (8 : Int32)) + (1 : Int32))
set_option maxHeartbeats 4000000 in
set_option maxRecDepth 100000 in
theorem bJ_startOfOldest {p : Program} {l : Launch} {e : Env} {s : State} {m : MethodId} {args : Array Value} {below : List Frame} {meth : Method} {c : Code} {D : va_G} {ca : Nat → ClassId} {ad : Nat → Nat} {A : Nat → Prop} (hA : ∀ q, s.heap.size ≤ q → A q) (S : CallFix p m c cJ_startOfOldest 1 s args jall RJ) (hN : xN A s) (hr : meth.sig.returnType = some .int) (hlk : meth.locks = false) (out : Int32) (σ : JS)  (ls : Array Slot) (H : Heap) (locs : List Loc) (hl : lv_has ls 1 [(0, .ref (ad 1))]) (hw : jH D (xT ca) (xC ca ad σ) A s.heap H locs s) (hf : mJ_startOfOldest σ  = some out) : W p l e (headSpec wsJ_startOfOldest rmJ_startOfOldest).room s m args below meth c H locs 0 0 (MQ below (jQi D (xT ca) (xC ca ad) A out σ) args s 0 0 A) (F0 m 0 ls []) := by
  have hx := S.1
  have hb := S.2.1
  unfold mJ_startOfOldest at hf
  refine lv_aload_n (pc := 0) hx hb dJ_startOfOldest_0 rfl (lv_at hl 0 rfl) ?_
  refine j_get (pc := 1) (v := .int (σ 100 1)) S hw inJ 1 1 10 xg_1 rfl (by decide) k_51 rfl dJ_startOfOldest_1 ?_
  refine lv_bipush (pc := 4) (v := (8 : Int32)) hx hb dJ_startOfOldest_4 (by decide) ?_
  refine lv_imul (pc := 6) hx hb dJ_startOfOldest_6 ?_
  refine lv_iconst (pc := 7) (v := (1 : Int32)) hx hb dJ_startOfOldest_7 (by decide) ?_
  refine lv_iadd (pc := 8) hx hb dJ_startOfOldest_8 ?_
  obtain rfl := jsm hf
  exact j_iret (pc := 9) S hw hr hlk dJ_startOfOldest_9
set_option maxHeartbeats 4000000 in
set_option maxRecDepth 100000 in
theorem kJ_startOfOldest (l : Launch) (D : va_G) (ca : Nat → ClassId) (ad : Nat → Nat) (sz : Nat) (σ : JS)  (out : Int32) (hf : mJ_startOfOldest σ  = some out) : Met l yJ_startOfOldest wsJ_startOfOldest rmJ_startOfOldest (jPre D (xT ca) (xC ca ad σ) (xN (va_A (xC ca ad σ) sz)) sz [.ref (ad 1)]) (jQi D (xT ca) (xC ca ad) (va_A (xC ca ad σ) sz) out σ) 0 0 (va_A (xC ca ad σ) sz) := by
  refine Met.ofW (cc := cJ_startOfOldest) (maxL := 1) (ret := some .int) (by decide) rfl ?_
  intro p e s m args below meth c s₁ B hml hv
  obtain ⟨rfl, hsz, hP, hK, hD0, hN⟩ := hv
  subst hsz
  have hl := lv_entry [.ref (ad 1)] (n := 1) (Nat.le_of_ble_eq_true rfl)
  rw [lg_entry_eq]
  generalize (lg_sl [.ref (ad 1)] ++ List.replicate (1 - (lg_sl [.ref (ad 1)]).length) Slot.unset).toArray = ls at hl ⊢
  exact bJ_startOfOldest (fun q h => Or.inr h) ⟨B.exec, B.bytes, hml, findClass_of_methodNamed B.named, fun w h => atoms_spec (ws := wsJ_startOfOldest) B.pre w (List.mem_cons_of_mem _ h)⟩ hN B.returns B.notSynchronized out σ  ls _ _ hl ⟨hP, hD0.self, va_S.rf, hK⟩ hf

def rmJ_isKept : Room := { frames := 1, cells := 0, slots := 0, locals := 20 }
def mJ_isKept (σ : JS) (x1 : Int32) : Option (Int32) :=
  jbn (mJ_startOfOldest σ ) fun q1 =>
  if x1 < q1 then
  (some (0 : Int32))
  else
  (if (σ 100 0) < x1 then
  (some (0 : Int32))
  else
  (some (1 : Int32)))
set_option maxHeartbeats 4000000 in
set_option maxRecDepth 100000 in
theorem bJ_isKept {p : Program} {l : Launch} {e : Env} {s : State} {m : MethodId} {args : Array Value} {below : List Frame} {meth : Method} {c : Code} {D : va_G} {ca : Nat → ClassId} {ad : Nat → Nat} {A : Nat → Prop} (hA : ∀ q, s.heap.size ≤ q → A q) (S : CallFix p m c cJ_isKept 2 s args jall RJ) (hN : xN A s) (hr : meth.sig.returnType = some .boolean) (hlk : meth.locks = false) (out : Int32) (σ : JS) (x1 : Int32) (ls : Array Slot) (H : Heap) (locs : List Loc) (hl : lv_has ls 2 [(0, .ref (ad 1)), (1, .int x1)]) (hw : jH D (xT ca) (xC ca ad σ) A s.heap H locs s) (hf : mJ_isKept σ x1 = some out) : W p l e (headSpec wsJ_isKept rmJ_isKept).room s m args below meth c H locs 0 0 (MQ below (jQi D (xT ca) (xC ca ad) A out σ) args s 0 0 A) (F0 m 0 ls []) := by
  have hx := S.1
  have hb := S.2.1
  unfold mJ_isKept at hf
  refine lv_iload_n (pc := 0) hx hb dJ_isKept_0 rfl (lv_at hl 1 rfl) ?_
  refine lv_aload_n (pc := 1) hx hb dJ_isKept_1 rfl (lv_at hl 0 rfl) ?_
  have hg := jbn_e hf; clear hf; obtain ⟨q1, h2, hf⟩ := hg
  refine j_calli (pc := 2) (C := xC ca ad) (σ' := σ) (v := q1) hw hA (va_runV (As := []) (rest := [.int x1]) S (kJ_startOfOldest l D ca ad _ σ  q1 h2) (cwV 0 S.2.2.2.2 (jgV k_243 k_244 k_245 k_2 k_246) rfl rfl rfl (by decide +kernel) ⟨Nat.le_of_ble_eq_true rfl, Nat.le_of_ble_eq_true rfl⟩) (j_preV (As := []) hw xN_b (xN_to hN hw hA) rfl xg_1) rfl rfl hl.1 rfl (lv_room (Nat.le_of_ble_eq_true rfl)) dJ_isKept_2 ⟨Nat.le_of_ble_eq_true rfl, Nat.le_of_ble_eq_true rfl⟩) (fun H locs hw => ?_)
  refine lv_icmp_lt (pc := 5) (tgt := 20) hx hb dJ_isKept_5 (by decide) (fun hc => ?_) (fun hc => ?_)
  · replace hf := jit hf hc
    refine lv_iconst (pc := 20) (v := (0 : Int32)) hx hb dJ_isKept_20 (by decide) ?_
    obtain rfl := jsm hf
    exact j_zret (pc := 21) S hw hr hlk (by decide) dJ_isKept_21
  · replace hf := jif hf hc
    refine lv_iload_n (pc := 8) hx hb dJ_isKept_8 rfl (lv_at hl 1 rfl) ?_
    refine lv_aload_n (pc := 9) hx hb dJ_isKept_9 rfl (lv_at hl 0 rfl) ?_
    refine j_get (pc := 10) (v := .int (σ 100 0)) S hw inJ 1 1 9 xg_1 rfl (by decide) k_49 rfl dJ_isKept_10 ?_
    refine lv_icmp_gt (pc := 13) (tgt := 20) hx hb dJ_isKept_13 (by decide) (fun hc => ?_) (fun hc => ?_)
    · replace hf := jit hf hc
      refine lv_iconst (pc := 20) (v := (0 : Int32)) hx hb dJ_isKept_20 (by decide) ?_
      obtain rfl := jsm hf
      exact j_zret (pc := 21) S hw hr hlk (by decide) dJ_isKept_21
    · replace hf := jif hf hc
      refine lv_iconst (pc := 16) (v := (1 : Int32)) hx hb dJ_isKept_16 (by decide) ?_
      refine lv_goto (pc := 17) (tgt := 21) hx hb dJ_isKept_17 (by decide) ?_
      obtain rfl := jsm hf
      exact j_zret (pc := 21) S hw hr hlk (by decide) dJ_isKept_21
set_option maxHeartbeats 4000000 in
set_option maxRecDepth 100000 in
theorem kJ_isKept (l : Launch) (D : va_G) (ca : Nat → ClassId) (ad : Nat → Nat) (sz : Nat) (σ : JS) (x1 : Int32) (out : Int32) (hf : mJ_isKept σ x1 = some out) : Met l yJ_isKept wsJ_isKept rmJ_isKept (jPre D (xT ca) (xC ca ad σ) (xN (va_A (xC ca ad σ) sz)) sz [.ref (ad 1), .int x1]) (jQi D (xT ca) (xC ca ad) (va_A (xC ca ad σ) sz) out σ) 0 0 (va_A (xC ca ad σ) sz) := by
  refine Met.ofW (cc := cJ_isKept) (maxL := 2) (ret := some .boolean) (by decide) rfl ?_
  intro p e s m args below meth c s₁ B hml hv
  obtain ⟨rfl, hsz, hP, hK, hD0, hN⟩ := hv
  subst hsz
  have hl := lv_entry [.ref (ad 1), .int x1] (n := 2) (Nat.le_of_ble_eq_true rfl)
  rw [lg_entry_eq]
  generalize (lg_sl [.ref (ad 1), .int x1] ++ List.replicate (2 - (lg_sl [.ref (ad 1), .int x1]).length) Slot.unset).toArray = ls at hl ⊢
  exact bJ_isKept (fun q h => Or.inr h) ⟨B.exec, B.bytes, hml, findClass_of_methodNamed B.named, fun w h => atoms_spec (ws := wsJ_isKept) B.pre w (List.mem_cons_of_mem _ h)⟩ hN B.returns B.notSynchronized out σ x1 ls _ _ hl ⟨hP, hD0.self, va_S.rf, hK⟩ hf

def rmJ_isInOpenCycle : Room := { frames := 1, cells := 0, slots := 0, locals := 21 }
def mJ_isInOpenCycle (σ : JS) (x1 : Int32) : Option (Int32) :=
  jrd σ 7 121 x1 fun v1 =>
  jbn (mJ_isCycleOpen σ v1) fun q4 =>
  if q4 = 0 then
  (some (0 : Int32))
  else
  (jrd σ 12 4 v1 fun v6 =>
  if x1 < v6 then
  (some (0 : Int32))
  else
  (some (1 : Int32)))
set_option maxHeartbeats 4000000 in
set_option maxRecDepth 100000 in
theorem bJ_isInOpenCycle {p : Program} {l : Launch} {e : Env} {s : State} {m : MethodId} {args : Array Value} {below : List Frame} {meth : Method} {c : Code} {D : va_G} {ca : Nat → ClassId} {ad : Nat → Nat} {A : Nat → Prop} (hA : ∀ q, s.heap.size ≤ q → A q) (S : CallFix p m c cJ_isInOpenCycle 3 s args jall RJ) (hN : xN A s) (hr : meth.sig.returnType = some .boolean) (hlk : meth.locks = false) (out : Int32) (σ : JS) (x1 : Int32) (ls : Array Slot) (H : Heap) (locs : List Loc) (hl : lv_has ls 3 [(0, .ref (ad 1)), (1, .int x1)]) (hw : jH D (xT ca) (xC ca ad σ) A s.heap H locs s) (hf : mJ_isInOpenCycle σ x1 = some out) : W p l e (headSpec wsJ_isInOpenCycle rmJ_isInOpenCycle).room s m args below meth c H locs 0 0 (MQ below (jQi D (xT ca) (xC ca ad) A out σ) args s 0 0 A) (F0 m 0 ls []) := by
  have hx := S.1
  have hb := S.2.1
  unfold mJ_isInOpenCycle at hf
  refine lv_aload_n (pc := 0) hx hb dJ_isInOpenCycle_0 rfl (lv_at hl 0 rfl) ?_
  refine j_get (pc := 1) (v := .ref (ad 7)) S hw inJ 1 1 1 xg_1 rfl (by decide) k_32 rfl dJ_isInOpenCycle_1 ?_
  refine lv_iload_n (pc := 4) hx hb dJ_isInOpenCycle_4 rfl (lv_at hl 1 rfl) ?_
  have hg := jrd_e hf; clear hf; obtain ⟨h2, v1, e3, hf⟩ := hg
  refine j_iald (pc := 5) S hw 7 1 xg_7 xt_7 h2 e3 dJ_isInOpenCycle_5 ?_
  refine lv_istore_n (pc := 6) (lv' := [(2, .int v1), (0, .ref (ad 1)), (1, .int x1)]) hx hb dJ_isInOpenCycle_6 rfl hl (by decide) rfl (fun ls hl => ?_)
  refine lv_aload_n (pc := 7) hx hb dJ_isInOpenCycle_7 rfl (lv_at hl 1 rfl) ?_
  refine lv_iload_n (pc := 8) hx hb dJ_isInOpenCycle_8 rfl (lv_at hl 0 rfl) ?_
  have hg := jbn_e hf; clear hf; obtain ⟨q4, h5, hf⟩ := hg
  refine j_calli (pc := 9) (C := xC ca ad) (σ' := σ) (v := q4) hw hA (va_runV (As := [.int v1]) (rest := []) S (kJ_isCycleOpen l D ca ad _ σ v1 q4 h5) (cwV 1 S.2.2.2.2 (jgV k_374 k_375 k_376 k_2 k_377) rfl rfl rfl (by decide +kernel) ⟨Nat.le_of_ble_eq_true rfl, Nat.le_of_ble_eq_true rfl⟩) (j_preV (As := [.int v1]) hw xN_b (xN_to hN hw hA) rfl xg_1) rfl rfl hl.1 rfl (lv_room (Nat.le_of_ble_eq_true rfl)) dJ_isInOpenCycle_9 ⟨Nat.le_of_ble_eq_true rfl, Nat.le_of_ble_eq_true rfl⟩) (fun H locs hw => ?_)
  refine lv_if_eq (pc := 12) (tgt := 29) hx hb dJ_isInOpenCycle_12 (by decide) (fun hc => ?_) (fun hc => ?_)
  · replace hf := jit hf hc
    refine lv_iconst (pc := 29) (v := (0 : Int32)) hx hb dJ_isInOpenCycle_29 (by decide) ?_
    obtain rfl := jsm hf
    exact j_zret (pc := 30) S hw hr hlk (by decide) dJ_isInOpenCycle_30
  · replace hf := jif hf hc
    refine lv_iload_n (pc := 15) hx hb dJ_isInOpenCycle_15 rfl (lv_at hl 2 rfl) ?_
    refine lv_aload_n (pc := 16) hx hb dJ_isInOpenCycle_16 rfl (lv_at hl 1 rfl) ?_
    refine j_get (pc := 17) (v := .ref (ad 12)) S hw inJ 1 1 6 xg_1 rfl (by decide) k_45 rfl dJ_isInOpenCycle_17 ?_
    refine lv_iload_n (pc := 20) hx hb dJ_isInOpenCycle_20 rfl (lv_at hl 0 rfl) ?_
    have hg := jrd_e hf; clear hf; obtain ⟨h7, v6, e8, hf⟩ := hg
    refine j_iald (pc := 21) S hw 12 6 xg_12 xt_12 h7 e8 dJ_isInOpenCycle_21 ?_
    refine lv_icmp_lt (pc := 22) (tgt := 29) hx hb dJ_isInOpenCycle_22 (by decide) (fun hc => ?_) (fun hc => ?_)
    · replace hf := jit hf hc
      refine lv_iconst (pc := 29) (v := (0 : Int32)) hx hb dJ_isInOpenCycle_29 (by decide) ?_
      obtain rfl := jsm hf
      exact j_zret (pc := 30) S hw hr hlk (by decide) dJ_isInOpenCycle_30
    · replace hf := jif hf hc
      refine lv_iconst (pc := 25) (v := (1 : Int32)) hx hb dJ_isInOpenCycle_25 (by decide) ?_
      refine lv_goto (pc := 26) (tgt := 30) hx hb dJ_isInOpenCycle_26 (by decide) ?_
      obtain rfl := jsm hf
      exact j_zret (pc := 30) S hw hr hlk (by decide) dJ_isInOpenCycle_30
set_option maxHeartbeats 4000000 in
set_option maxRecDepth 100000 in
theorem kJ_isInOpenCycle (l : Launch) (D : va_G) (ca : Nat → ClassId) (ad : Nat → Nat) (sz : Nat) (σ : JS) (x1 : Int32) (out : Int32) (hf : mJ_isInOpenCycle σ x1 = some out) : Met l yJ_isInOpenCycle wsJ_isInOpenCycle rmJ_isInOpenCycle (jPre D (xT ca) (xC ca ad σ) (xN (va_A (xC ca ad σ) sz)) sz [.ref (ad 1), .int x1]) (jQi D (xT ca) (xC ca ad) (va_A (xC ca ad σ) sz) out σ) 0 0 (va_A (xC ca ad σ) sz) := by
  refine Met.ofW (cc := cJ_isInOpenCycle) (maxL := 3) (ret := some .boolean) (by decide) rfl ?_
  intro p e s m args below meth c s₁ B hml hv
  obtain ⟨rfl, hsz, hP, hK, hD0, hN⟩ := hv
  subst hsz
  have hl := lv_entry [.ref (ad 1), .int x1] (n := 3) (Nat.le_of_ble_eq_true rfl)
  rw [lg_entry_eq]
  generalize (lg_sl [.ref (ad 1), .int x1] ++ List.replicate (3 - (lg_sl [.ref (ad 1), .int x1]).length) Slot.unset).toArray = ls at hl ⊢
  exact bJ_isInOpenCycle (fun q h => Or.inr h) ⟨B.exec, B.bytes, hml, findClass_of_methodNamed B.named, fun w h => atoms_spec (ws := wsJ_isInOpenCycle) B.pre w (List.mem_cons_of_mem _ h)⟩ hN B.returns B.notSynchronized out σ x1 ls _ _ hl ⟨hP, hD0.self, va_S.rf, hK⟩ hf

def rmJ_isLockedByAnother : Room := { frames := 2, cells := 0, slots := 0, locals := 43 }
def mJ_isLockedByAnother_L5 (σ : JS) (x1 : Int32) (x2 : Int32) : Nat → Int32 → Option (Int32)
  | 0, _ => none
  | n + 1, x3 =>
    if (σ 100 0) < x3 then
    (some (0 : Int32))
    else
    (jrd σ 6 121 x3 fun v3 =>
    if v3 = (1 : Int32) then
    (jrd σ 8 121 x3 fun v6 =>
    if v6 = x2 then
    (jrd σ 7 121 x3 fun v9 =>
    if v9 = x1 then
    (mJ_isLockedByAnother_L5 σ x1 x2 n (x3 + 1))
    else
    (jbn (mJ_isInOpenCycle σ x3) fun q12 =>
    if q12 = 0 then
    (mJ_isLockedByAnother_L5 σ x1 x2 n (x3 + 1))
    else
    (some (1 : Int32))))
    else
    (mJ_isLockedByAnother_L5 σ x1 x2 n (x3 + 1)))
    else
    (mJ_isLockedByAnother_L5 σ x1 x2 n (x3 + 1)))
def mJ_isLockedByAnother (σ : JS) (x1 : Int32) (x2 : Int32) : Option (Int32) :=
  jbn (mJ_startOfOldest σ ) fun q1 =>
  mJ_isLockedByAnother_L5 σ x1 x2 999 q1
set_option maxHeartbeats 4000000 in
set_option maxRecDepth 100000 in
theorem wmJ_isLockedByAnother_L5 {p : Program} {l : Launch} {e : Env} {s : State} {m : MethodId} {args : Array Value} {below : List Frame} {meth : Method} {c : Code} {D : va_G} {ca : Nat → ClassId} {ad : Nat → Nat} {A : Nat → Prop} (hA : ∀ q, s.heap.size ≤ q → A q) (S : CallFix p m c cJ_isLockedByAnother 4 s args jall RJ) (hN : xN A s) (hr : meth.sig.returnType = some .boolean) (hlk : meth.locks = false) (out : Int32) (σ : JS) (x1 : Int32) (x2 : Int32) : ∀ (n : Nat) (x3 : Int32) (ls : Array Slot) (H : Heap) (locs : List Loc), lv_has ls 4 [(0, .ref (ad 1)), (1, .int x1), (2, .int x2), (3, .int x3)] → jH D (xT ca) (xC ca ad σ) A s.heap H locs s → mJ_isLockedByAnother_L5 σ x1 x2 n x3 = some out → W p l e (headSpec wsJ_isLockedByAnother rmJ_isLockedByAnother).room s m args below meth c H locs 0 0 (MQ below (jQi D (xT ca) (xC ca ad) A out σ) args s 0 0 A) (F0 m 5 ls []) := by
  have hx := S.1
  have hb := S.2.1
  intro n
  induction n with
  | zero => intro x3 ls H locs hl hw hf; cases hf
  | succ n ih =>
    intro x3 ls H locs hl hw hf
    rw [mJ_isLockedByAnother_L5] at hf
    refine lv_iload_n (pc := 5) hx hb dJ_isLockedByAnother_5 rfl (lv_at hl 3 rfl) ?_
    refine lv_aload_n (pc := 6) hx hb dJ_isLockedByAnother_6 rfl (lv_at hl 0 rfl) ?_
    refine j_get (pc := 7) (v := .int (σ 100 0)) S hw inJ 1 1 9 xg_1 rfl (by decide) k_49 rfl dJ_isLockedByAnother_7 ?_
    refine lv_icmp_gt (pc := 10) (tgt := 59) hx hb dJ_isLockedByAnother_10 (by decide) (fun hc => ?_) (fun hc => ?_)
    · replace hf := jit hf hc
      refine lv_iconst (pc := 59) (v := (0 : Int32)) hx hb dJ_isLockedByAnother_59 (by decide) ?_
      obtain rfl := jsm hf
      exact j_zret (pc := 60) S hw hr hlk (by decide) dJ_isLockedByAnother_60
    · replace hf := jif hf hc
      refine lv_aload_n (pc := 13) hx hb dJ_isLockedByAnother_13 rfl (lv_at hl 0 rfl) ?_
      refine j_get (pc := 14) (v := .ref (ad 6)) S hw inJ 1 1 0 xg_1 rfl (by decide) k_29 rfl dJ_isLockedByAnother_14 ?_
      refine lv_iload_n (pc := 17) hx hb dJ_isLockedByAnother_17 rfl (lv_at hl 3 rfl) ?_
      have hg := jrd_e hf; clear hf; obtain ⟨h4, v3, e5, hf⟩ := hg
      refine j_iald (pc := 18) S hw 6 0 xg_6 xt_6 h4 e5 dJ_isLockedByAnother_18 ?_
      refine lv_iconst (pc := 19) (v := (1 : Int32)) hx hb dJ_isLockedByAnother_19 (by decide) ?_
      refine lv_icmp_ne (pc := 20) (tgt := 53) hx hb dJ_isLockedByAnother_20 (by decide) (fun hc => ?_) (fun hc => ?_)
      · replace hf := jif hf hc
        refine lv_iinc (pc := 53) (v := (x3 + 1)) (k := 3) (lv' := [(3, .int (x3 + 1)), (0, .ref (ad 1)), (1, .int x1), (2, .int x2)]) hx hb dJ_isLockedByAnother_53 hl rfl (j_inc _ (by decide)) (by decide) rfl (fun ls hl => ?_)
        refine lv_goto (pc := 56) (tgt := 5) hx hb dJ_isLockedByAnother_56 (by decide) ?_
        exact ih (x3 + 1) _ _ _ (lv_sub hl [1, 2, 3, 0] rfl) hw hf
      · replace hf := jit hf hc
        refine lv_aload_n (pc := 23) hx hb dJ_isLockedByAnother_23 rfl (lv_at hl 0 rfl) ?_
        refine j_get (pc := 24) (v := .ref (ad 8)) S hw inJ 1 1 2 xg_1 rfl (by decide) k_35 rfl dJ_isLockedByAnother_24 ?_
        refine lv_iload_n (pc := 27) hx hb dJ_isLockedByAnother_27 rfl (lv_at hl 3 rfl) ?_
        have hg := jrd_e hf; clear hf; obtain ⟨h7, v6, e8, hf⟩ := hg
        refine j_iald (pc := 28) S hw 8 2 xg_8 xt_8 h7 e8 dJ_isLockedByAnother_28 ?_
        refine lv_iload_n (pc := 29) hx hb dJ_isLockedByAnother_29 rfl (lv_at hl 2 rfl) ?_
        refine lv_icmp_ne (pc := 30) (tgt := 53) hx hb dJ_isLockedByAnother_30 (by decide) (fun hc => ?_) (fun hc => ?_)
        · replace hf := jif hf hc
          refine lv_iinc (pc := 53) (v := (x3 + 1)) (k := 3) (lv' := [(3, .int (x3 + 1)), (0, .ref (ad 1)), (1, .int x1), (2, .int x2)]) hx hb dJ_isLockedByAnother_53 hl rfl (j_inc _ (by decide)) (by decide) rfl (fun ls hl => ?_)
          refine lv_goto (pc := 56) (tgt := 5) hx hb dJ_isLockedByAnother_56 (by decide) ?_
          exact ih (x3 + 1) _ _ _ (lv_sub hl [1, 2, 3, 0] rfl) hw hf
        · replace hf := jit hf hc
          refine lv_aload_n (pc := 33) hx hb dJ_isLockedByAnother_33 rfl (lv_at hl 0 rfl) ?_
          refine j_get (pc := 34) (v := .ref (ad 7)) S hw inJ 1 1 1 xg_1 rfl (by decide) k_32 rfl dJ_isLockedByAnother_34 ?_
          refine lv_iload_n (pc := 37) hx hb dJ_isLockedByAnother_37 rfl (lv_at hl 3 rfl) ?_
          have hg := jrd_e hf; clear hf; obtain ⟨h10, v9, e11, hf⟩ := hg
          refine j_iald (pc := 38) S hw 7 1 xg_7 xt_7 h10 e11 dJ_isLockedByAnother_38 ?_
          refine lv_iload_n (pc := 39) hx hb dJ_isLockedByAnother_39 rfl (lv_at hl 1 rfl) ?_
          refine lv_icmp_eq (pc := 40) (tgt := 53) hx hb dJ_isLockedByAnother_40 (by decide) (fun hc => ?_) (fun hc => ?_)
          · replace hf := jit hf hc
            refine lv_iinc (pc := 53) (v := (x3 + 1)) (k := 3) (lv' := [(3, .int (x3 + 1)), (0, .ref (ad 1)), (1, .int x1), (2, .int x2)]) hx hb dJ_isLockedByAnother_53 hl rfl (j_inc _ (by decide)) (by decide) rfl (fun ls hl => ?_)
            refine lv_goto (pc := 56) (tgt := 5) hx hb dJ_isLockedByAnother_56 (by decide) ?_
            exact ih (x3 + 1) _ _ _ (lv_sub hl [1, 2, 3, 0] rfl) hw hf
          · replace hf := jif hf hc
            refine lv_aload_n (pc := 43) hx hb dJ_isLockedByAnother_43 rfl (lv_at hl 0 rfl) ?_
            refine lv_iload_n (pc := 44) hx hb dJ_isLockedByAnother_44 rfl (lv_at hl 3 rfl) ?_
            have hg := jbn_e hf; clear hf; obtain ⟨q12, h13, hf⟩ := hg
            refine j_calli (pc := 45) (C := xC ca ad) (σ' := σ) (v := q12) hw hA (va_runV (As := [.int x3]) (rest := []) S (kJ_isInOpenCycle l D ca ad _ σ x3 q12 h13) (cwV 1 S.2.2.2.2 (jgV k_370 k_372 ks_1 k_2 k_373) rfl rfl rfl (by decide +kernel) ⟨Nat.le_of_ble_eq_true rfl, Nat.le_of_ble_eq_true rfl⟩) (j_preV (As := [.int x3]) hw xN_b (xN_to hN hw hA) rfl xg_1) rfl rfl hl.1 rfl (lv_room (Nat.le_of_ble_eq_true rfl)) dJ_isLockedByAnother_45 ⟨Nat.le_of_ble_eq_true rfl, Nat.le_of_ble_eq_true rfl⟩) (fun H locs hw => ?_)
            refine lv_if_eq (pc := 48) (tgt := 53) hx hb dJ_isLockedByAnother_48 (by decide) (fun hc => ?_) (fun hc => ?_)
            · replace hf := jit hf hc
              refine lv_iinc (pc := 53) (v := (x3 + 1)) (k := 3) (lv' := [(3, .int (x3 + 1)), (0, .ref (ad 1)), (1, .int x1), (2, .int x2)]) hx hb dJ_isLockedByAnother_53 hl rfl (j_inc _ (by decide)) (by decide) rfl (fun ls hl => ?_)
              refine lv_goto (pc := 56) (tgt := 5) hx hb dJ_isLockedByAnother_56 (by decide) ?_
              exact ih (x3 + 1) _ _ _ (lv_sub hl [1, 2, 3, 0] rfl) hw hf
            · replace hf := jif hf hc
              refine lv_iconst (pc := 51) (v := (1 : Int32)) hx hb dJ_isLockedByAnother_51 (by decide) ?_
              obtain rfl := jsm hf
              exact j_zret (pc := 52) S hw hr hlk (by decide) dJ_isLockedByAnother_52
set_option maxHeartbeats 4000000 in
set_option maxRecDepth 100000 in
theorem bJ_isLockedByAnother {p : Program} {l : Launch} {e : Env} {s : State} {m : MethodId} {args : Array Value} {below : List Frame} {meth : Method} {c : Code} {D : va_G} {ca : Nat → ClassId} {ad : Nat → Nat} {A : Nat → Prop} (hA : ∀ q, s.heap.size ≤ q → A q) (S : CallFix p m c cJ_isLockedByAnother 4 s args jall RJ) (hN : xN A s) (hr : meth.sig.returnType = some .boolean) (hlk : meth.locks = false) (out : Int32) (σ : JS) (x1 : Int32) (x2 : Int32) (ls : Array Slot) (H : Heap) (locs : List Loc) (hl : lv_has ls 4 [(0, .ref (ad 1)), (1, .int x1), (2, .int x2)]) (hw : jH D (xT ca) (xC ca ad σ) A s.heap H locs s) (hf : mJ_isLockedByAnother σ x1 x2 = some out) : W p l e (headSpec wsJ_isLockedByAnother rmJ_isLockedByAnother).room s m args below meth c H locs 0 0 (MQ below (jQi D (xT ca) (xC ca ad) A out σ) args s 0 0 A) (F0 m 0 ls []) := by
  have hx := S.1
  have hb := S.2.1
  unfold mJ_isLockedByAnother at hf
  refine lv_aload_n (pc := 0) hx hb dJ_isLockedByAnother_0 rfl (lv_at hl 0 rfl) ?_
  have hg := jbn_e hf; clear hf; obtain ⟨q1, h2, hf⟩ := hg
  refine j_calli (pc := 1) (C := xC ca ad) (σ' := σ) (v := q1) hw hA (va_runV (As := []) (rest := []) S (kJ_startOfOldest l D ca ad _ σ  q1 h2) (cwV 0 S.2.2.2.2 (jgV k_243 k_244 k_245 k_2 k_246) rfl rfl rfl (by decide +kernel) ⟨Nat.le_of_ble_eq_true rfl, Nat.le_of_ble_eq_true rfl⟩) (j_preV (As := []) hw xN_b (xN_to hN hw hA) rfl xg_1) rfl rfl hl.1 rfl (lv_room (Nat.le_of_ble_eq_true rfl)) dJ_isLockedByAnother_1 ⟨Nat.le_of_ble_eq_true rfl, Nat.le_of_ble_eq_true rfl⟩) (fun H locs hw => ?_)
  refine lv_istore_n (pc := 4) (lv' := [(3, .int q1), (0, .ref (ad 1)), (1, .int x1), (2, .int x2)]) hx hb dJ_isLockedByAnother_4 rfl hl (by decide) rfl (fun ls hl => ?_)
  exact wmJ_isLockedByAnother_L5 hA S hN hr hlk out σ x1 x2 999 q1 _ _ _ (lv_sub hl [1, 2, 3, 0] rfl) hw hf
set_option maxHeartbeats 4000000 in
set_option maxRecDepth 100000 in
theorem kJ_isLockedByAnother (l : Launch) (D : va_G) (ca : Nat → ClassId) (ad : Nat → Nat) (sz : Nat) (σ : JS) (x1 : Int32) (x2 : Int32) (out : Int32) (hf : mJ_isLockedByAnother σ x1 x2 = some out) : Met l yJ_isLockedByAnother wsJ_isLockedByAnother rmJ_isLockedByAnother (jPre D (xT ca) (xC ca ad σ) (xN (va_A (xC ca ad σ) sz)) sz [.ref (ad 1), .int x1, .int x2]) (jQi D (xT ca) (xC ca ad) (va_A (xC ca ad σ) sz) out σ) 0 0 (va_A (xC ca ad σ) sz) := by
  refine Met.ofW (cc := cJ_isLockedByAnother) (maxL := 4) (ret := some .boolean) (by decide) rfl ?_
  intro p e s m args below meth c s₁ B hml hv
  obtain ⟨rfl, hsz, hP, hK, hD0, hN⟩ := hv
  subst hsz
  have hl := lv_entry [.ref (ad 1), .int x1, .int x2] (n := 4) (Nat.le_of_ble_eq_true rfl)
  rw [lg_entry_eq]
  generalize (lg_sl [.ref (ad 1), .int x1, .int x2] ++ List.replicate (4 - (lg_sl [.ref (ad 1), .int x1, .int x2]).length) Slot.unset).toArray = ls at hl ⊢
  exact bJ_isLockedByAnother (fun q h => Or.inr h) ⟨B.exec, B.bytes, hml, findClass_of_methodNamed B.named, fun w h => atoms_spec (ws := wsJ_isLockedByAnother) B.pre w (List.mem_cons_of_mem _ h)⟩ hN B.returns B.notSynchronized out σ x1 x2 ls _ _ hl ⟨hP, hD0.self, va_S.rf, hK⟩ hf

def rmJ_room : Room := { frames := 1, cells := 0, slots := 0, locals := 17 }
def mJ_room (σ : JS)  : Option (Int32) :=
  jmn (120 : Int32) ((8 : Int32) * ((σ 100 1) + (6 : Int32))) fun v1 =>
  some (v1 - (σ 100 0))
set_option maxHeartbeats 4000000 in
set_option maxRecDepth 100000 in
theorem bJ_room {p : Program} {l : Launch} {e : Env} {s : State} {m : MethodId} {args : Array Value} {below : List Frame} {meth : Method} {c : Code} {D : va_G} {ca : Nat → ClassId} {ad : Nat → Nat} {A : Nat → Prop} (hA : ∀ q, s.heap.size ≤ q → A q) (S : CallFix p m c cJ_room 1 s args jall RJ) (hN : xN A s) (hr : meth.sig.returnType = some .int) (hlk : meth.locks = false) (out : Int32) (σ : JS)  (ls : Array Slot) (H : Heap) (locs : List Loc) (hl : lv_has ls 1 [(0, .ref (ad 1))]) (hw : jH D (xT ca) (xC ca ad σ) A s.heap H locs s) (hf : mJ_room σ  = some out) : W p l e (headSpec wsJ_room rmJ_room).room s m args below meth c H locs 0 0 (MQ below (jQi D (xT ca) (xC ca ad) A out σ) args s 0 0 A) (F0 m 0 ls []) := by
  have hx := S.1
  have hb := S.2.1
  unfold mJ_room at hf
  refine lv_bipush (pc := 0) (v := (120 : Int32)) hx hb dJ_room_0 (by decide) ?_
  refine lv_bipush (pc := 2) (v := (8 : Int32)) hx hb dJ_room_2 (by decide) ?_
  refine lv_aload_n (pc := 4) hx hb dJ_room_4 rfl (lv_at hl 0 rfl) ?_
  refine j_get (pc := 5) (v := .int (σ 100 1)) S hw inJ 1 1 10 xg_1 rfl (by decide) k_51 rfl dJ_room_5 ?_
  refine lv_bipush (pc := 8) (v := (6 : Int32)) hx hb dJ_room_8 (by decide) ?_
  refine lv_iadd (pc := 10) hx hb dJ_room_10 ?_
  refine lv_imul (pc := 11) hx hb dJ_room_11 ?_
  have hg := jmn_e hf; clear hf; obtain ⟨v1, e2, hf⟩ := hg
  refine va_mmin (pc := 12) hx hb (S.2.2.1.trans hl.1.symm) S.2.2.2.1 (S.2.2.2.2 _ k_386) (S.2.2.2.2 _ k_387) (S.2.2.2.2 _ k_13) (S.2.2.2.2 _ k_388) (Nat.le_of_ble_eq_true rfl) (Nat.le_of_ble_eq_true rfl) (Nat.zero_le _) (Nat.zero_le _) dJ_room_12 ?_
  rw [← e2]
  refine lv_aload_n (pc := 15) hx hb dJ_room_15 rfl (lv_at hl 0 rfl) ?_
  refine j_get (pc := 16) (v := .int (σ 100 0)) S hw inJ 1 1 9 xg_1 rfl (by decide) k_49 rfl dJ_room_16 ?_
  refine lv_isub (pc := 19) hx hb dJ_room_19 ?_
  obtain rfl := jsm hf
  exact j_iret (pc := 20) S hw hr hlk dJ_room_20
set_option maxHeartbeats 4000000 in
set_option maxRecDepth 100000 in
theorem kJ_room (l : Launch) (D : va_G) (ca : Nat → ClassId) (ad : Nat → Nat) (sz : Nat) (σ : JS)  (out : Int32) (hf : mJ_room σ  = some out) : Met l yJ_room wsJ_room rmJ_room (jPre D (xT ca) (xC ca ad σ) (xN (va_A (xC ca ad σ) sz)) sz [.ref (ad 1)]) (jQi D (xT ca) (xC ca ad) (va_A (xC ca ad σ) sz) out σ) 0 0 (va_A (xC ca ad σ) sz) := by
  refine Met.ofW (cc := cJ_room) (maxL := 1) (ret := some .int) (by decide) rfl ?_
  intro p e s m args below meth c s₁ B hml hv
  obtain ⟨rfl, hsz, hP, hK, hD0, hN⟩ := hv
  subst hsz
  have hl := lv_entry [.ref (ad 1)] (n := 1) (Nat.le_of_ble_eq_true rfl)
  rw [lg_entry_eq]
  generalize (lg_sl [.ref (ad 1)] ++ List.replicate (1 - (lg_sl [.ref (ad 1)]).length) Slot.unset).toArray = ls at hl ⊢
  exact bJ_room (fun q h => Or.inr h) ⟨B.exec, B.bytes, hml, findClass_of_methodNamed B.named, fun w h => atoms_spec (ws := wsJ_room) B.pre w (List.mem_cons_of_mem _ h)⟩ hN B.returns B.notSynchronized out σ  ls _ _ hl ⟨hP, hD0.self, va_S.rf, hK⟩ hf

def rmJ_reserve : Room := { frames := 1, cells := 0, slots := 0, locals := 21 }
def mJ_reserve_L4 (σ : JS) : Nat → Int32 → Int32 → Option (Int32)
  | 0, _, _ => none
  | n + 1, x1, x2 =>
    if (3 : Int32) ≤ x2 then
    (some x1)
    else
    (jbn (mJ_isCycleOpen σ x2) fun q1 =>
    if q1 = 0 then
    (mJ_reserve_L4 σ n x1 (x2 + 1))
    else
    (jrd σ 13 4 x2 fun v3 =>
    mJ_reserve_L4 σ n (x1 + (v3 + (1 : Int32))) (x2 + 1)))
def mJ_reserve (σ : JS)  : Option (Int32) :=
  mJ_reserve_L4 σ 999 (0 : Int32) (0 : Int32)
set_option maxHeartbeats 4000000 in
set_option maxRecDepth 100000 in
theorem wmJ_reserve_L4 {p : Program} {l : Launch} {e : Env} {s : State} {m : MethodId} {args : Array Value} {below : List Frame} {meth : Method} {c : Code} {D : va_G} {ca : Nat → ClassId} {ad : Nat → Nat} {A : Nat → Prop} (hA : ∀ q, s.heap.size ≤ q → A q) (S : CallFix p m c cJ_reserve 3 s args jall RJ) (hN : xN A s) (hr : meth.sig.returnType = some .int) (hlk : meth.locks = false) (out : Int32) (σ : JS) : ∀ (n : Nat) (x1 : Int32) (x2 : Int32) (ls : Array Slot) (H : Heap) (locs : List Loc), lv_has ls 3 [(0, .ref (ad 1)), (1, .int x1), (2, .int x2)] → jH D (xT ca) (xC ca ad σ) A s.heap H locs s → mJ_reserve_L4 σ n x1 x2 = some out → W p l e (headSpec wsJ_reserve rmJ_reserve).room s m args below meth c H locs 0 0 (MQ below (jQi D (xT ca) (xC ca ad) A out σ) args s 0 0 A) (F0 m 4 ls []) := by
  have hx := S.1
  have hb := S.2.1
  intro n
  induction n with
  | zero => intro x1 x2 ls H locs hl hw hf; cases hf
  | succ n ih =>
    intro x1 x2 ls H locs hl hw hf
    rw [mJ_reserve_L4] at hf
    refine lv_iload_n (pc := 4) hx hb dJ_reserve_4 rfl (lv_at hl 2 rfl) ?_
    refine lv_iconst (pc := 5) (v := (3 : Int32)) hx hb dJ_reserve_5 (by decide) ?_
    refine lv_icmp_ge (pc := 6) (tgt := 34) hx hb dJ_reserve_6 (by decide) (fun hc => ?_) (fun hc => ?_)
    · replace hf := jit hf hc
      refine lv_iload_n (pc := 34) hx hb dJ_reserve_34 rfl (lv_at hl 1 rfl) ?_
      obtain rfl := jsm hf
      exact j_iret (pc := 35) S hw hr hlk dJ_reserve_35
    · replace hf := jif hf hc
      refine lv_aload_n (pc := 9) hx hb dJ_reserve_9 rfl (lv_at hl 0 rfl) ?_
      refine lv_iload_n (pc := 10) hx hb dJ_reserve_10 rfl (lv_at hl 2 rfl) ?_
      have hg := jbn_e hf; clear hf; obtain ⟨q1, h2, hf⟩ := hg
      refine j_calli (pc := 11) (C := xC ca ad) (σ' := σ) (v := q1) hw hA (va_runV (As := [.int x2]) (rest := []) S (kJ_isCycleOpen l D ca ad _ σ x2 q1 h2) (cwV 1 S.2.2.2.2 (jgV k_374 k_375 k_376 k_2 k_377) rfl rfl rfl (by decide +kernel) ⟨Nat.le_of_ble_eq_true rfl, Nat.le_of_ble_eq_true rfl⟩) (j_preV (As := [.int x2]) hw xN_b (xN_to hN hw hA) rfl xg_1) rfl rfl hl.1 rfl (lv_room (Nat.le_of_ble_eq_true rfl)) dJ_reserve_11 ⟨Nat.le_of_ble_eq_true rfl, Nat.le_of_ble_eq_true rfl⟩) (fun H locs hw => ?_)
      refine lv_if_eq (pc := 14) (tgt := 28) hx hb dJ_reserve_14 (by decide) (fun hc => ?_) (fun hc => ?_)
      · replace hf := jit hf hc
        refine lv_iinc (pc := 28) (v := (x2 + 1)) (k := 2) (lv' := [(2, .int (x2 + 1)), (0, .ref (ad 1)), (1, .int x1)]) hx hb dJ_reserve_28 hl rfl (j_inc _ (by decide)) (by decide) rfl (fun ls hl => ?_)
        refine lv_goto (pc := 31) (tgt := 4) hx hb dJ_reserve_31 (by decide) ?_
        exact ih x1 (x2 + 1) _ _ _ (lv_sub hl [1, 2, 0] rfl) hw hf
      · replace hf := jif hf hc
        refine lv_iload_n (pc := 17) hx hb dJ_reserve_17 rfl (lv_at hl 1 rfl) ?_
        refine lv_aload_n (pc := 18) hx hb dJ_reserve_18 rfl (lv_at hl 0 rfl) ?_
        refine j_get (pc := 19) (v := .ref (ad 13)) S hw inJ 1 1 7 xg_1 rfl (by decide) k_47 rfl dJ_reserve_19 ?_
        refine lv_iload_n (pc := 22) hx hb dJ_reserve_22 rfl (lv_at hl 2 rfl) ?_
        have hg := jrd_e hf; clear hf; obtain ⟨h4, v3, e5, hf⟩ := hg
        refine j_iald (pc := 23) S hw 13 7 xg_13 xt_13 h4 e5 dJ_reserve_23 ?_
        refine lv_iconst (pc := 24) (v := (1 : Int32)) hx hb dJ_reserve_24 (by decide) ?_
        refine lv_iadd (pc := 25) hx hb dJ_reserve_25 ?_
        refine lv_iadd (pc := 26) hx hb dJ_reserve_26 ?_
        refine lv_istore_n (pc := 27) (lv' := [(1, .int (x1 + (v3 + (1 : Int32)))), (0, .ref (ad 1)), (2, .int x2)]) hx hb dJ_reserve_27 rfl hl (by decide) rfl (fun ls hl => ?_)
        refine lv_iinc (pc := 28) (v := (x2 + 1)) (k := 2) (lv' := [(2, .int (x2 + 1)), (1, .int (x1 + (v3 + (1 : Int32)))), (0, .ref (ad 1))]) hx hb dJ_reserve_28 hl rfl (j_inc _ (by decide)) (by decide) rfl (fun ls hl => ?_)
        refine lv_goto (pc := 31) (tgt := 4) hx hb dJ_reserve_31 (by decide) ?_
        exact ih (x1 + (v3 + (1 : Int32))) (x2 + 1) _ _ _ (lv_sub hl [2, 1, 0] rfl) hw hf
set_option maxHeartbeats 4000000 in
set_option maxRecDepth 100000 in
theorem bJ_reserve {p : Program} {l : Launch} {e : Env} {s : State} {m : MethodId} {args : Array Value} {below : List Frame} {meth : Method} {c : Code} {D : va_G} {ca : Nat → ClassId} {ad : Nat → Nat} {A : Nat → Prop} (hA : ∀ q, s.heap.size ≤ q → A q) (S : CallFix p m c cJ_reserve 3 s args jall RJ) (hN : xN A s) (hr : meth.sig.returnType = some .int) (hlk : meth.locks = false) (out : Int32) (σ : JS)  (ls : Array Slot) (H : Heap) (locs : List Loc) (hl : lv_has ls 3 [(0, .ref (ad 1))]) (hw : jH D (xT ca) (xC ca ad σ) A s.heap H locs s) (hf : mJ_reserve σ  = some out) : W p l e (headSpec wsJ_reserve rmJ_reserve).room s m args below meth c H locs 0 0 (MQ below (jQi D (xT ca) (xC ca ad) A out σ) args s 0 0 A) (F0 m 0 ls []) := by
  have hx := S.1
  have hb := S.2.1
  unfold mJ_reserve at hf
  refine lv_iconst (pc := 0) (v := (0 : Int32)) hx hb dJ_reserve_0 (by decide) ?_
  refine lv_istore_n (pc := 1) (lv' := [(1, .int (0 : Int32)), (0, .ref (ad 1))]) hx hb dJ_reserve_1 rfl hl (by decide) rfl (fun ls hl => ?_)
  refine lv_iconst (pc := 2) (v := (0 : Int32)) hx hb dJ_reserve_2 (by decide) ?_
  refine lv_istore_n (pc := 3) (lv' := [(2, .int (0 : Int32)), (1, .int (0 : Int32)), (0, .ref (ad 1))]) hx hb dJ_reserve_3 rfl hl (by decide) rfl (fun ls hl => ?_)
  exact wmJ_reserve_L4 hA S hN hr hlk out σ 999 (0 : Int32) (0 : Int32) _ _ _ (lv_sub hl [2, 1, 0] rfl) hw hf
set_option maxHeartbeats 4000000 in
set_option maxRecDepth 100000 in
theorem kJ_reserve (l : Launch) (D : va_G) (ca : Nat → ClassId) (ad : Nat → Nat) (sz : Nat) (σ : JS)  (out : Int32) (hf : mJ_reserve σ  = some out) : Met l yJ_reserve wsJ_reserve rmJ_reserve (jPre D (xT ca) (xC ca ad σ) (xN (va_A (xC ca ad σ) sz)) sz [.ref (ad 1)]) (jQi D (xT ca) (xC ca ad) (va_A (xC ca ad σ) sz) out σ) 0 0 (va_A (xC ca ad σ) sz) := by
  refine Met.ofW (cc := cJ_reserve) (maxL := 3) (ret := some .int) (by decide) rfl ?_
  intro p e s m args below meth c s₁ B hml hv
  obtain ⟨rfl, hsz, hP, hK, hD0, hN⟩ := hv
  subst hsz
  have hl := lv_entry [.ref (ad 1)] (n := 3) (Nat.le_of_ble_eq_true rfl)
  rw [lg_entry_eq]
  generalize (lg_sl [.ref (ad 1)] ++ List.replicate (3 - (lg_sl [.ref (ad 1)]).length) Slot.unset).toArray = ls at hl ⊢
  exact bJ_reserve (fun q h => Or.inr h) ⟨B.exec, B.bytes, hml, findClass_of_methodNamed B.named, fun w h => atoms_spec (ws := wsJ_reserve) B.pre w (List.mem_cons_of_mem _ h)⟩ hN B.returns B.notSynchronized out σ  ls _ _ hl ⟨hP, hD0.self, va_S.rf, hK⟩ hf
end
