section
-- ===== PART A: goes FIRST, ahead of the names: the tables' words, and 'selects' of the private methods out of them =====
/-- a private method of a class that the tables say can be made, by its rows of tables_1 -/
def lw_okq (q : MethodName × Nat) : Prop := (q.1.cls ≠ "java/lang/invoke/MethodHandle" ∧ q.1.cls ≠ "java/lang/invoke/VarHandle") ∧ Cond.instantiable q.1.cls q.2 ∈ tables_1 ∧ Cond.privateMethod q.1 ∈ tables_1 ∧ Cond.instanceMethod q.1 ∈ tables_1
theorem lw_p0 : lw_okq (⟨"SecureEntry", "isUnlocked", "()Z"⟩, 14) := ⟨⟨by decide +kernel, by decide +kernel⟩, List.mem_of_getElem? (i := 16) (by decide +kernel), List.mem_of_getElem? (i := 110) (by decide +kernel), List.mem_of_getElem? (i := 111) (by decide +kernel)⟩
theorem lw_p1 : lw_okq (⟨"java/lang/Throwable", "fillInStackTrace", "(I)Ljava/lang/Throwable;"⟩, 6) := ⟨⟨by decide +kernel, by decide +kernel⟩, List.mem_of_getElem? (i := 180) (by decide +kernel), List.mem_of_getElem? (i := 178) (by decide +kernel), List.mem_of_getElem? (i := 179) (by decide +kernel)⟩
theorem lw_p2 : lw_okq (⟨"SecureEntry", "isEnrolled", "(I)Z"⟩, 14) := ⟨⟨by decide +kernel, by decide +kernel⟩, List.mem_of_getElem? (i := 16) (by decide +kernel), List.mem_of_getElem? (i := 205) (by decide +kernel), List.mem_of_getElem? (i := 206) (by decide +kernel)⟩
theorem lw_p3 : lw_okq (⟨"SecureEntry", "rightSignature", "(IIIIII)I"⟩, 14) := ⟨⟨by decide +kernel, by decide +kernel⟩, List.mem_of_getElem? (i := 16) (by decide +kernel), List.mem_of_getElem? (i := 209) (by decide +kernel), List.mem_of_getElem? (i := 210) (by decide +kernel)⟩
theorem lw_p4 : lw_okq (⟨"SecureEntry", "requireInNoReader", "(I)V"⟩, 14) := ⟨⟨by decide +kernel, by decide +kernel⟩, List.mem_of_getElem? (i := 16) (by decide +kernel), List.mem_of_getElem? (i := 242) (by decide +kernel), List.mem_of_getElem? (i := 243) (by decide +kernel)⟩
theorem lw_p5 : lw_okq (⟨"SecureEntry", "certificateOf", "(II)LSecureEntry$Certificate;"⟩, 14) := ⟨⟨by decide +kernel, by decide +kernel⟩, List.mem_of_getElem? (i := 16) (by decide +kernel), List.mem_of_getElem? (i := 261) (by decide +kernel), List.mem_of_getElem? (i := 262) (by decide +kernel)⟩
theorem lw_p6 : lw_okq (⟨"SecureEntry", "give", "(ILSecureEntry$Certificate;)V"⟩, 14) := ⟨⟨by decide +kernel, by decide +kernel⟩, List.mem_of_getElem? (i := 16) (by decide +kernel), List.mem_of_getElem? (i := 299) (by decide +kernel), List.mem_of_getElem? (i := 300) (by decide +kernel)⟩
theorem lw_p7 : lw_okq (⟨"SecureEntry", "enrolledIssuers", "()I"⟩, 14) := ⟨⟨by decide +kernel, by decide +kernel⟩, List.mem_of_getElem? (i := 16) (by decide +kernel), List.mem_of_getElem? (i := 317) (by decide +kernel), List.mem_of_getElem? (i := 318) (by decide +kernel)⟩
theorem lw_p8 : lw_okq (⟨"SecureEntry", "becomeUserState", "(I)V"⟩, 14) := ⟨⟨by decide +kernel, by decide +kernel⟩, List.mem_of_getElem? (i := 16) (by decide +kernel), List.mem_of_getElem? (i := 321) (by decide +kernel), List.mem_of_getElem? (i := 322) (by decide +kernel)⟩
theorem lw_p9 : lw_okq (⟨"SecureEntry", "requireUp", "()V"⟩, 14) := ⟨⟨by decide +kernel, by decide +kernel⟩, List.mem_of_getElem? (i := 16) (by decide +kernel), List.mem_of_getElem? (i := 332) (by decide +kernel), List.mem_of_getElem? (i := 333) (by decide +kernel)⟩
theorem lw_p10 : lw_okq (⟨"SecureEntry", "writeAbout", "(II)V"⟩, 14) := ⟨⟨by decide +kernel, by decide +kernel⟩, List.mem_of_getElem? (i := 16) (by decide +kernel), List.mem_of_getElem? (i := 339) (by decide +kernel), List.mem_of_getElem? (i := 340) (by decide +kernel)⟩
theorem lw_p11 : lw_okq (⟨"SecureEntry", "isAuthorised", "(I)Z"⟩, 14) := ⟨⟨by decide +kernel, by decide +kernel⟩, List.mem_of_getElem? (i := 16) (by decide +kernel), List.mem_of_getElem? (i := 343) (by decide +kernel), List.mem_of_getElem? (i := 344) (by decide +kernel)⟩
theorem lw_p12 : lw_okq (⟨"SecureEntry", "isValidForIdHolder", "(II)Z"⟩, 14) := ⟨⟨by decide +kernel, by decide +kernel⟩, List.mem_of_getElem? (i := 16) (by decide +kernel), List.mem_of_getElem? (i := 347) (by decide +kernel), List.mem_of_getElem? (i := 348) (by decide +kernel)⟩
theorem lw_p13 : lw_okq (⟨"SecureEntry", "isValid", "(LSecureEntry$Certificate;)Z"⟩, 14) := ⟨⟨by decide +kernel, by decide +kernel⟩, List.mem_of_getElem? (i := 16) (by decide +kernel), List.mem_of_getElem? (i := 351) (by decide +kernel), List.mem_of_getElem? (i := 352) (by decide +kernel)⟩
theorem lw_p14 : lw_okq (⟨"SecureEntry", "allowEntry", "()V"⟩, 14) := ⟨⟨by decide +kernel, by decide +kernel⟩, List.mem_of_getElem? (i := 16) (by decide +kernel), List.mem_of_getElem? (i := 359) (by decide +kernel), List.mem_of_getElem? (i := 360) (by decide +kernel)⟩
theorem lw_p15 : lw_okq (⟨"SecureEntry", "isGood", "(I)Z"⟩, 14) := ⟨⟨by decide +kernel, by decide +kernel⟩, List.mem_of_getElem? (i := 16) (by decide +kernel), List.mem_of_getElem? (i := 363) (by decide +kernel), List.mem_of_getElem? (i := 364) (by decide +kernel)⟩
def lw_privs_1 : List (MethodName × Nat) := [(⟨"SecureEntry", "isUnlocked", "()Z"⟩, 14), (⟨"java/lang/Throwable", "fillInStackTrace", "(I)Ljava/lang/Throwable;"⟩, 6), (⟨"SecureEntry", "isEnrolled", "(I)Z"⟩, 14), (⟨"SecureEntry", "rightSignature", "(IIIIII)I"⟩, 14), (⟨"SecureEntry", "requireInNoReader", "(I)V"⟩, 14), (⟨"SecureEntry", "certificateOf", "(II)LSecureEntry$Certificate;"⟩, 14), (⟨"SecureEntry", "give", "(ILSecureEntry$Certificate;)V"⟩, 14), (⟨"SecureEntry", "enrolledIssuers", "()I"⟩, 14), (⟨"SecureEntry", "becomeUserState", "(I)V"⟩, 14), (⟨"SecureEntry", "requireUp", "()V"⟩, 14), (⟨"SecureEntry", "writeAbout", "(II)V"⟩, 14), (⟨"SecureEntry", "isAuthorised", "(I)Z"⟩, 14), (⟨"SecureEntry", "isValidForIdHolder", "(II)Z"⟩, 14), (⟨"SecureEntry", "isValid", "(LSecureEntry$Certificate;)Z"⟩, 14), (⟨"SecureEntry", "allowEntry", "()V"⟩, 14), (⟨"SecureEntry", "isGood", "(I)Z"⟩, 14)]
theorem lw_r1 : ∀ q ∈ lw_privs_1, lw_okq q := List.forall_mem_cons.mpr ⟨lw_p0, List.forall_mem_cons.mpr ⟨lw_p1, List.forall_mem_cons.mpr ⟨lw_p2, List.forall_mem_cons.mpr ⟨lw_p3, List.forall_mem_cons.mpr ⟨lw_p4, List.forall_mem_cons.mpr ⟨lw_p5, List.forall_mem_cons.mpr ⟨lw_p6, List.forall_mem_cons.mpr ⟨lw_p7, List.forall_mem_cons.mpr ⟨lw_p8, List.forall_mem_cons.mpr ⟨lw_p9, List.forall_mem_cons.mpr ⟨lw_p10, List.forall_mem_cons.mpr ⟨lw_p11, List.forall_mem_cons.mpr ⟨lw_p12, List.forall_mem_cons.mpr ⟨lw_p13, List.forall_mem_cons.mpr ⟨lw_p14, List.forall_mem_cons.mpr ⟨lw_p15, fun _ h => absurd h List.not_mem_nil⟩⟩⟩⟩⟩⟩⟩⟩⟩⟩⟩⟩⟩⟩⟩⟩
theorem lw_p16 : lw_okq (⟨"SecureEntry", "turnAway", "(I)V"⟩, 14) := ⟨⟨by decide +kernel, by decide +kernel⟩, List.mem_of_getElem? (i := 16) (by decide +kernel), List.mem_of_getElem? (i := 367) (by decide +kernel), List.mem_of_getElem? (i := 368) (by decide +kernel)⟩
theorem lw_p17 : lw_okq (⟨"SecureEntry", "matches", "(II)Z"⟩, 14) := ⟨⟨by decide +kernel, by decide +kernel⟩, List.mem_of_getElem? (i := 16) (by decide +kernel), List.mem_of_getElem? (i := 378) (by decide +kernel), List.mem_of_getElem? (i := 379) (by decide +kernel)⟩
theorem lw_p18 : lw_okq (⟨"SecureEntry", "authorisationBy", "(LSecureEntry$Certificate;)LSecureEntry$Certificate;"⟩, 14) := ⟨⟨by decide +kernel, by decide +kernel⟩, List.mem_of_getElem? (i := 16) (by decide +kernel), List.mem_of_getElem? (i := 388) (by decide +kernel), List.mem_of_getElem? (i := 389) (by decide +kernel)⟩
theorem lw_p19 : lw_okq (⟨"SecureEntry", "unlock", "()V"⟩, 14) := ⟨⟨by decide +kernel, by decide +kernel⟩, List.mem_of_getElem? (i := 16) (by decide +kernel), List.mem_of_getElem? (i := 413) (by decide +kernel), List.mem_of_getElem? (i := 414) (by decide +kernel)⟩
theorem lw_p20 : lw_okq (⟨"SecureEntry", "authorisedRole", "(I)I"⟩, 14) := ⟨⟨by decide +kernel, by decide +kernel⟩, List.mem_of_getElem? (i := 16) (by decide +kernel), List.mem_of_getElem? (i := 424) (by decide +kernel), List.mem_of_getElem? (i := 425) (by decide +kernel)⟩
theorem lw_p21 : lw_okq (⟨"SecureEntry", "dismissAdministrator", "()V"⟩, 14) := ⟨⟨by decide +kernel, by decide +kernel⟩, List.mem_of_getElem? (i := 16) (by decide +kernel), List.mem_of_getElem? (i := 435) (by decide +kernel), List.mem_of_getElem? (i := 436) (by decide +kernel)⟩
theorem lw_p22 : lw_okq (⟨"SecureEntry", "requireAdministrator", "()V"⟩, 14) := ⟨⟨by decide +kernel, by decide +kernel⟩, List.mem_of_getElem? (i := 16) (by decide +kernel), List.mem_of_getElem? (i := 447) (by decide +kernel), List.mem_of_getElem? (i := 448) (by decide +kernel)⟩
theorem lw_p23 : lw_okq (⟨"SecureEntry", "requireRole", "(I)V"⟩, 14) := ⟨⟨by decide +kernel, by decide +kernel⟩, List.mem_of_getElem? (i := 16) (by decide +kernel), List.mem_of_getElem? (i := 451) (by decide +kernel), List.mem_of_getElem? (i := 452) (by decide +kernel)⟩
theorem lw_p24 : lw_okq (⟨"SecureEntry", "endWaitingInTime", "()V"⟩, 14) := ⟨⟨by decide +kernel, by decide +kernel⟩, List.mem_of_getElem? (i := 16) (by decide +kernel), List.mem_of_getElem? (i := 504) (by decide +kernel), List.mem_of_getElem? (i := 505) (by decide +kernel)⟩
theorem lw_p25 : lw_okq (⟨"SecureEntry", "endAdministrationInTime", "()V"⟩, 14) := ⟨⟨by decide +kernel, by decide +kernel⟩, List.mem_of_getElem? (i := 16) (by decide +kernel), List.mem_of_getElem? (i := 508) (by decide +kernel), List.mem_of_getElem? (i := 509) (by decide +kernel)⟩
theorem lw_p26 : lw_okq (⟨"SecureEntry", "isAlarmSounding", "()Z"⟩, 14) := ⟨⟨by decide +kernel, by decide +kernel⟩, List.mem_of_getElem? (i := 16) (by decide +kernel), List.mem_of_getElem? (i := 536) (by decide +kernel), List.mem_of_getElem? (i := 537) (by decide +kernel)⟩
theorem lw_p27 : lw_okq (⟨"SecureEntryModel", "right", "(IIIIII)I"⟩, 25) := ⟨⟨by decide +kernel, by decide +kernel⟩, List.mem_of_getElem? (i := 540) (by decide +kernel), List.mem_of_getElem? (i := 639) (by decide +kernel), List.mem_of_getElem? (i := 640) (by decide +kernel)⟩
theorem lw_p28 : lw_okq (⟨"SecureEntryModel", "raise", "(I)I"⟩, 25) := ⟨⟨by decide +kernel, by decide +kernel⟩, List.mem_of_getElem? (i := 540) (by decide +kernel), List.mem_of_getElem? (i := 648) (by decide +kernel), List.mem_of_getElem? (i := 649) (by decide +kernel)⟩
theorem lw_p29 : lw_okq (⟨"SecureEntryModel", "read", "(I)Z"⟩, 25) := ⟨⟨by decide +kernel, by decide +kernel⟩, List.mem_of_getElem? (i := 540) (by decide +kernel), List.mem_of_getElem? (i := 656) (by decide +kernel), List.mem_of_getElem? (i := 657) (by decide +kernel)⟩
theorem lw_p30 : lw_okq (⟨"SecureEntryModel", "put", "(IIIIII)V"⟩, 25) := ⟨⟨by decide +kernel, by decide +kernel⟩, List.mem_of_getElem? (i := 540) (by decide +kernel), List.mem_of_getElem? (i := 660) (by decide +kernel), List.mem_of_getElem? (i := 661) (by decide +kernel)⟩
theorem lw_p31 : lw_okq (⟨"SecureEntryModel", "log", "(II)V"⟩, 25) := ⟨⟨by decide +kernel, by decide +kernel⟩, List.mem_of_getElem? (i := 540) (by decide +kernel), List.mem_of_getElem? (i := 672) (by decide +kernel), List.mem_of_getElem? (i := 673) (by decide +kernel)⟩
def lw_privs_2 : List (MethodName × Nat) := [(⟨"SecureEntry", "turnAway", "(I)V"⟩, 14), (⟨"SecureEntry", "matches", "(II)Z"⟩, 14), (⟨"SecureEntry", "authorisationBy", "(LSecureEntry$Certificate;)LSecureEntry$Certificate;"⟩, 14), (⟨"SecureEntry", "unlock", "()V"⟩, 14), (⟨"SecureEntry", "authorisedRole", "(I)I"⟩, 14), (⟨"SecureEntry", "dismissAdministrator", "()V"⟩, 14), (⟨"SecureEntry", "requireAdministrator", "()V"⟩, 14), (⟨"SecureEntry", "requireRole", "(I)V"⟩, 14), (⟨"SecureEntry", "endWaitingInTime", "()V"⟩, 14), (⟨"SecureEntry", "endAdministrationInTime", "()V"⟩, 14), (⟨"SecureEntry", "isAlarmSounding", "()Z"⟩, 14), (⟨"SecureEntryModel", "right", "(IIIIII)I"⟩, 25), (⟨"SecureEntryModel", "raise", "(I)I"⟩, 25), (⟨"SecureEntryModel", "read", "(I)Z"⟩, 25), (⟨"SecureEntryModel", "put", "(IIIIII)V"⟩, 25), (⟨"SecureEntryModel", "log", "(II)V"⟩, 25)]
theorem lw_r2 : ∀ q ∈ lw_privs_2, lw_okq q := List.forall_mem_cons.mpr ⟨lw_p16, List.forall_mem_cons.mpr ⟨lw_p17, List.forall_mem_cons.mpr ⟨lw_p18, List.forall_mem_cons.mpr ⟨lw_p19, List.forall_mem_cons.mpr ⟨lw_p20, List.forall_mem_cons.mpr ⟨lw_p21, List.forall_mem_cons.mpr ⟨lw_p22, List.forall_mem_cons.mpr ⟨lw_p23, List.forall_mem_cons.mpr ⟨lw_p24, List.forall_mem_cons.mpr ⟨lw_p25, List.forall_mem_cons.mpr ⟨lw_p26, List.forall_mem_cons.mpr ⟨lw_p27, List.forall_mem_cons.mpr ⟨lw_p28, List.forall_mem_cons.mpr ⟨lw_p29, List.forall_mem_cons.mpr ⟨lw_p30, List.forall_mem_cons.mpr ⟨lw_p31, fun _ h => absurd h List.not_mem_nil⟩⟩⟩⟩⟩⟩⟩⟩⟩⟩⟩⟩⟩⟩⟩⟩
theorem lw_p32 : lw_okq (⟨"SecureEntryModel", "note", "(II)V"⟩, 25) := ⟨⟨by decide +kernel, by decide +kernel⟩, List.mem_of_getElem? (i := 540) (by decide +kernel), List.mem_of_getElem? (i := 680) (by decide +kernel), List.mem_of_getElem? (i := 681) (by decide +kernel)⟩
theorem lw_p33 : lw_okq (⟨"SecureEntryModel", "authorised", "(I)Z"⟩, 25) := ⟨⟨by decide +kernel, by decide +kernel⟩, List.mem_of_getElem? (i := 540) (by decide +kernel), List.mem_of_getElem? (i := 684) (by decide +kernel), List.mem_of_getElem? (i := 685) (by decide +kernel)⟩
theorem lw_p34 : lw_okq (⟨"SecureEntryModel", "valid", "(I)Z"⟩, 25) := ⟨⟨by decide +kernel, by decide +kernel⟩, List.mem_of_getElem? (i := 540) (by decide +kernel), List.mem_of_getElem? (i := 688) (by decide +kernel), List.mem_of_getElem? (i := 689) (by decide +kernel)⟩
theorem lw_p35 : lw_okq (⟨"SecureEntryModel", "become", "(I)V"⟩, 25) := ⟨⟨by decide +kernel, by decide +kernel⟩, List.mem_of_getElem? (i := 540) (by decide +kernel), List.mem_of_getElem? (i := 692) (by decide +kernel), List.mem_of_getElem? (i := 693) (by decide +kernel)⟩
theorem lw_p36 : lw_okq (⟨"SecureEntryModel", "good", "(I)Z"⟩, 25) := ⟨⟨by decide +kernel, by decide +kernel⟩, List.mem_of_getElem? (i := 540) (by decide +kernel), List.mem_of_getElem? (i := 696) (by decide +kernel), List.mem_of_getElem? (i := 697) (by decide +kernel)⟩
theorem lw_p37 : lw_okq (⟨"SecureEntryModel", "unlock", "()V"⟩, 25) := ⟨⟨by decide +kernel, by decide +kernel⟩, List.mem_of_getElem? (i := 540) (by decide +kernel), List.mem_of_getElem? (i := 711) (by decide +kernel), List.mem_of_getElem? (i := 712) (by decide +kernel)⟩
theorem lw_p38 : lw_okq (⟨"SecureEntryModel", "refusal", "(I)I"⟩, 25) := ⟨⟨by decide +kernel, by decide +kernel⟩, List.mem_of_getElem? (i := 540) (by decide +kernel), List.mem_of_getElem? (i := 727) (by decide +kernel), List.mem_of_getElem? (i := 728) (by decide +kernel)⟩
theorem lw_p39 : lw_okq (⟨"SecureEntryModel", "second", "()V"⟩, 25) := ⟨⟨by decide +kernel, by decide +kernel⟩, List.mem_of_getElem? (i := 540) (by decide +kernel), List.mem_of_getElem? (i := 751) (by decide +kernel), List.mem_of_getElem? (i := 752) (by decide +kernel)⟩
def lw_privs_3 : List (MethodName × Nat) := [(⟨"SecureEntryModel", "note", "(II)V"⟩, 25), (⟨"SecureEntryModel", "authorised", "(I)Z"⟩, 25), (⟨"SecureEntryModel", "valid", "(I)Z"⟩, 25), (⟨"SecureEntryModel", "become", "(I)V"⟩, 25), (⟨"SecureEntryModel", "good", "(I)Z"⟩, 25), (⟨"SecureEntryModel", "unlock", "()V"⟩, 25), (⟨"SecureEntryModel", "refusal", "(I)I"⟩, 25), (⟨"SecureEntryModel", "second", "()V"⟩, 25)]
theorem lw_r3 : ∀ q ∈ lw_privs_3, lw_okq q := List.forall_mem_cons.mpr ⟨lw_p32, List.forall_mem_cons.mpr ⟨lw_p33, List.forall_mem_cons.mpr ⟨lw_p34, List.forall_mem_cons.mpr ⟨lw_p35, List.forall_mem_cons.mpr ⟨lw_p36, List.forall_mem_cons.mpr ⟨lw_p37, List.forall_mem_cons.mpr ⟨lw_p38, List.forall_mem_cons.mpr ⟨lw_p39, fun _ h => absurd h List.not_mem_nil⟩⟩⟩⟩⟩⟩⟩⟩
def lw_privs : List (MethodName × Nat) := lw_privs_1 ++ (lw_privs_2 ++ (lw_privs_3))
def lw_tbl : List Cond := k2_sels lw_privs ++ tables_1
theorem lw_privs_ok : ∀ q ∈ lw_privs, lw_okq q := by
  show ∀ q ∈ lw_privs_1 ++ (lw_privs_2 ++ (lw_privs_3)), lw_okq q
  exact List.forall_mem_append.mpr ⟨lw_r1, List.forall_mem_append.mpr ⟨lw_r2, lw_r3⟩⟩
end
section
/-! ===== BEGIN words of one list among another's, by their places ===== -/
theorem goodIn_r {big : List Cond} (ws : List Cond) (ps : List Nat) (hp : ws = ps.filterMap (fun i => big[i]?)) (h : ws.all goodWord = true) : GoodIn big ws := by
  intro w hw
  have h1 := List.all_eq_true.mp h w hw
  rw [hp] at hw
  obtain ⟨i, -, hi⟩ := List.mem_filterMap.mp hw
  have hm : w ∈ big := by first | exact List.mem_of_getElem? hi | exact List.getElem?_mem hi
  exact ⟨hm, good_of_word h1⟩
theorem goodIn_app {big a b : List Cond} (ha : GoodIn big a) (hb : GoodIn big b) : GoodIn big (a ++ b) := fun w h => (List.mem_append.mp h).elim (ha w) (hb w)
theorem goodIn_ca {big a b : List Cond} {c : Cond} (ha : GoodIn big (c :: a)) (hb : GoodIn big b) : GoodIn big (c :: (a ++ b)) := fun w h => (List.mem_cons.mp h).elim (fun e => ha w (List.mem_cons.mpr (Or.inl e))) (fun h => (List.mem_append.mp h).elim (fun h => ha w (List.mem_cons.mpr (Or.inr h))) (hb w))
theorem goodIn_sub {big ws : List Cond} (hm : ∀ w ∈ ws, w ∈ big) (h : ws.all goodWord = true) : GoodIn big ws := fun w hw => ⟨hm w hw, good_of_word (List.all_eq_true.mp h w hw)⟩
/-! ===== END ===== -/

/-! ===== BEGIN exceptions that leave a method, and their catching by the caller (launches without stack traces) ===== -/
section VXA
/-! The laws vx_back, vx_callV, vx_callS, vx_callSW, vx_throw0, vx_throwS follow proofs of the library, with one case more: JvmDerived/Free/Laws.lean (Back.of_free), Shelf42/LK1.lean (callV, callS), Shelf/KitTraced.lean (throwNew0V, throwNewS). -/
/-- where a method has thrown q: the class by its name, the cell, what was written, the world -/
def vx_T (XC : String → State → State → Prop) (st : State) (q : Addr) (t : State) (mc ms : Nat) (free : Addr → Prop) : Prop :=
  ∃ (E : String) (ce : Cell) (L : List Loc), XC E st t ∧ t.heap[q]? = some ce ∧ ce.vm = .none ∧ st.vm.findClass E = some ce.cls ∧ st.WarmedH t.vm ∧ st.sameButNew ({ t with vm := st.vm } : State) L mc ms ∧ ∀ z ∈ L, free z.base
def vx_Q (Qc : Array Value → State → Outcome → State → Prop) (XC : String → State → State → Prop) (mc ms : Nat) (free : Addr → Prop) : Array Value → State → Outcome → State → Prop := fun a st o t =>
  (Qc a st o t ∧ ∃ L, FrameEnd st o t L mc ms ∧ ∀ q ∈ L, free q.base) ∨ ∃ q, o = .threw q ∧ vx_T XC st q t mc ms free
/-- a callee that returns or throws -/
def vx_Met (l : Launch) (y : MethodName) (ws : List Cond) (rm : Room) (Pc : Array Value → State → Prop) (Qc : Array Value → State → Outcome → State → Prop) (XC : String → State → State → Prop) (mc ms : Nat) (free : Addr → Prop) : Prop :=
  MetFree l y (headSpec ws rm) Pc (fun _ _ _ _ _ => True) (vx_Q Qc XC mc ms free)
def vx_Post (XC : String → State → State → Prop) (mc ms : Nat) (free : Addr → Prop) : Pt → Array Value → Addr → Pt → Prop := fun A a q B =>
  ∃ (g : JFrame) (mk : MethodId) (t : State) (L : List Loc) (E : String) (ce : Cell), B.U.heap = t.heap ∧ B.U.vm = t.vm ∧ XC E (A.U.calling g mk a) t ∧ t.heap[q]? = some ce ∧ ce.vm = .none ∧ A.U.vm.findClass E = some ce.cls ∧ B.locs = A.locs ++ L ∧ (∀ z ∈ L, free z.base) ∧ B.cells = A.cells + mc ∧ B.slots = A.slots + ms
def vx_Back (l : Launch) (R : Room) (p : Program) (e : Env) (below : List Frame) (s : State) (sargs : Array Value) (y : MethodName) (len W9 : Nat)
    (Pre : Pt → Array Value → Prop) (Post : Pt → Array Value → Option Value → Pt → Prop) (PostX : Pt → Array Value → Addr → Pt → Prop) : Prop :=
  ∀ (m : MethodId) (meth : Method) (c : Code) (A : Pt) (g : JFrame) (ig : Instr) (mk : MethodId) (a : Array Value),
    Stand p l e R s m sargs below meth c A.U A.locs A.cells A.slots → g.method = m → g.locals.size = c.maxLocals → decode c.code g.pc = .ok (ig, len) →
    2 * g.monitorRoom + (g.stack.map fun v => v.category).sum ≤ W9 → A.U.methodNamed? y = some mk → Pre A a →
    (∃ (v : Option Value) (B : Pt), Stand p l e R s m sargs below meth c B.U B.locs B.cells B.slots ∧ Post A a v B ∧
      Steps p.tables e below (doInvoke e (A.U.setTop g) [] mk a).1 (B.U.setTop { g with pc := g.pc + len, stack := v.toList ++ g.stack })) ∨
    (∃ (q : Addr) (B : Pt), Stand p l e R s m sargs below meth c B.U B.locs B.cells B.slots ∧ PostX A a q B ∧
      Steps p.tables e below (doInvoke e (A.U.setTop g) [] mk a).1 ((B.U.setTop g).pushFrame (.throwing q)))
section Payer
variable {l : Launch} {R : Room} {p : Program} {e : Env} {below : List Frame} {s : State} {sargs : Array Value} {y : MethodName} {len W9 : Nat}
theorem vx_back {ws : List Cond} {rm : Room} {Pc : Array Value → State → Prop} {Qc : Array Value → State → Outcome → State → Prop} {XC : String → State → State → Prop} {mc ms : Nat} {free : Addr → Prop} {bytes : ByteArray} {maxL : Nat} {ret : Option FieldType}
    (hM : vx_Met l y ws rm Pc Qc XC mc ms free) (hblind : FrameBlind Pc) (hrc : rm.cells = mc) (hrs : rm.slots = ms)
    (hframes : rm.frames + 1 ≤ R.frames) (hlocals : W9 + (maxL + 11) + rm.locals ≤ R.locals)
    (hws : ∀ w ∈ ws, ∀ a' U, s.WarmedH U.vm → w.before a' U = true) (hcode : Cond.code y bytes maxL ret ∈ ws) (hinit : ∀ a' U, s.WarmedH U.vm → (Cond.initialized y.cls).before a' U = true) :
    vx_Back l R p e below s sargs y len W9 (PreOf R mc ms Pc) (PostOf Qc mc ms free) (vx_Post XC mc ms free) := by
  intro m meth c A g ig mk a X hg hsize hdg hW hn hp
  have h1 : (headSpec ws rm).pre.before a A.U = true := atoms_intro fun w hw => hws w hw _ _ X.warmed
  have h2 : (Cond.code y bytes maxL ret).before a A.U = true := hws _ hcode _ _ X.warmed
  have h3 : (Cond.initialized y.cls).before a A.U = true := hinit _ _ X.warmed
  have h4 : A.cells + (headSpec ws rm).room.cells ≤ R.cells := by rw [show (headSpec ws rm).room.cells = mc from hrc]; exact hp.1
  have h5 : A.slots + (headSpec ws rm).room.slots ≤ R.slots := by rw [show (headSpec ws rm).room.slots = ms from hrs]; exact hp.2.1
  have hPc : Pc a (A.U.calling g mk a) := hblind _ _ _ _ hp.2.2
  obtain ⟨U, Ls, c0, s0⟩ := A
  dsimp only [Pt.U, Pt.locs, Pt.cells, Pt.slots] at h1 h2 h3 h4 h5 X hn hPc ⊢
  obtain ⟨methY, cY, hmY, hcY, -, hlY, -, -, -, -⟩ := Cond.code_spec hn h2
  obtain ⟨kY, hkY, -⟩ := className_of_methodNamed hn
  have hinitY : kY.init = .initialized := Cond.initialized_spec (findClass_of_methodNamed hn) hkY h3
  have h : At U g.method c below := by rw [hg]; exact X.here
  have hlocals9 : W9 + (maxL + 11) + (headSpec ws rm).room.locals ≤ R.locals := hlocals
  have happ : (headSpec ws rm).appliesLoose y e.platform (U.calling g mk a) = true :=
    Spec.appliesLoose_calling (g := g) h hdg hn hkY hinitY
      (X.room_calling (g := g) (R' := (headSpec ws rm).room) hsize hmY hcY hframes (by rw [hlY]; omega) h4 h5) h1
  obtain ⟨mid, hmid⟩ := h.above
  have hfr : (U.setTop g).frames = (.java g :: mid) ++ below := by rw [State.frames_setTop' g h.top, hmid]; rfl
  obtain ⟨o, s₂, hsteps, -, hend, hq⟩ := Steps.callFree hM p X.admits X.cas X.clock (acts := []) hfr happ hPc trivial
  have hq' : vx_Q Qc XC mc ms free a (U.calling g mk a) o s₂ := hq
  rw [State.frames_setTop' g h.top] at hend
  obtain ⟨g₀, hg0⟩ := Option.isSome_iff_exists.mp h.top
  obtain ⟨r, hr⟩ := State.topJava?_eq_some.mp hg0
  have hr' : (({ U with heap := s₂.heap, slotsUsed := s₂.slotsUsed } : State).setVm s₂.vm).frames = .java g₀ :: r := hr
  rcases hq' with ⟨hqc, L, hfe, hL⟩ | ⟨q, rfl, E, ce, L, hx, hce, hcv, hcl, hW₂, hsm, hL⟩
  · obtain ⟨⟨v, rfl⟩, hW₂, e2, q2, q3, q4, q5, q6⟩ := id hfe
    have e3 : s₂ = ({ (U.calling g mk a).setFrames s₂.frames with heap := s₂.heap, slotsUsed := s₂.slotsUsed } : State).setVm s₂.vm := by
      have : s₂ = ({ s₂ with vm := (U.calling g mk a).vm } : State).setVm s₂.vm := rfl
      rw [e2] at this
      exact this
    obtain ⟨c₂, i₂, len₂, hc₂, hd₂, hf₂⟩ := hend
    have hW' : U.WarmedH s₂.vm := hW₂
    have hcc : c₂ = c := by
      have h1 : s₂.code? g.method = U.code? g.method := by
        rw [State.code?_eq, State.code?_eq, hW'.alike.method?]
      exact Option.some.inj (hc₂.symm.trans (h1.trans h.code))
    subst hcc
    have hlen : len₂ = len := by rw [hdg] at hd₂; cases hd₂; rfl
    subst hlen
    have hs₂ : s₂ = (({ U with heap := s₂.heap, slotsUsed := s₂.slotsUsed } : State).setVm s₂.vm).setTop { g with pc := g.pc + len₂, stack := v.toList ++ g.stack } := by
      refine e3.trans ?_
      rw [hf₂, State.calling_eq h.top, State.setFrames_setFrames, State.setTop_of_frames _ hr', hr]
      rfl
    have hsame : U.sameButNew ({ U with heap := s₂.heap, slotsUsed := s₂.slotsUsed } : State) L mc ms := by
      refine ⟨?_, q2, q3, q4, q5, q6⟩
      obtain ⟨t, ht, -⟩ := State.frames_cons hr
      show ({ U with heap := s₂.heap, slotsUsed := s₂.slotsUsed } : State) = { U.setFrames U.frames with heap := s₂.heap, slotsUsed := s₂.slotsUsed }
      rw [State.setFrames_self ht]
    subst hg
    refine Or.inl ⟨v, ⟨(({ U with heap := s₂.heap, slotsUsed := s₂.slotsUsed } : State).setVm s₂.vm), Ls ++ L, c0 + mc, s0 + ms⟩,
      ⟨X.admits, X.cas, X.clock, X.frames, X.room, X.hears, X.method, X.code, (X.here.setHeapUsed s₂.heap s₂.slotsUsed).setVm hW'.alike, X.tail, State.WarmedH.trans X.warmed hW', X.limits, X.bytes, X.same.trans (hsame.setVm s.vm)⟩,
      ⟨g, mk, s₂, L, rfl, rfl, hqc, rfl, hL, rfl, rfl⟩, ?_⟩
    show Steps p.tables e below _ ((({ U with heap := s₂.heap, slotsUsed := s₂.slotsUsed } : State).setVm s₂.vm).setTop { g with pc := g.pc + len₂, stack := v.toList ++ g.stack })
    rw [← hs₂]
    exact hsteps
  · obtain ⟨e2, q2, q3, q4, q5, q6⟩ := id hsm
    have e3 : s₂ = ({ (U.calling g mk a).setFrames s₂.frames with heap := s₂.heap, slotsUsed := s₂.slotsUsed } : State).setVm s₂.vm := by
      have : s₂ = ({ s₂ with vm := (U.calling g mk a).vm } : State).setVm s₂.vm := rfl
      rw [e2] at this
      exact this
    have hf₂ : s₂.frames = .throwing q :: .java g :: U.frames.tail := hend
    have hW' : U.WarmedH s₂.vm := hW₂
    have hs₂ : s₂ = ((({ U with heap := s₂.heap, slotsUsed := s₂.slotsUsed } : State).setVm s₂.vm).setTop g).pushFrame (.throwing q) := by
      refine e3.trans ?_
      rw [hf₂, State.calling_eq h.top, State.setFrames_setFrames, State.pushFrame, State.frames_setTop _ hr', State.setTop_of_frames _ hr', State.setFrames_setFrames, hr]
      rfl
    have hsame : U.sameButNew ({ U with heap := s₂.heap, slotsUsed := s₂.slotsUsed } : State) L mc ms := by
      refine ⟨?_, q2, q3, q4, q5, q6⟩
      obtain ⟨t, ht, -⟩ := State.frames_cons hr
      show ({ U with heap := s₂.heap, slotsUsed := s₂.slotsUsed } : State) = { U.setFrames U.frames with heap := s₂.heap, slotsUsed := s₂.slotsUsed }
      rw [State.setFrames_self ht]
    subst hg
    refine Or.inr ⟨q, ⟨(({ U with heap := s₂.heap, slotsUsed := s₂.slotsUsed } : State).setVm s₂.vm), Ls ++ L, c0 + mc, s0 + ms⟩,
      ⟨X.admits, X.cas, X.clock, X.frames, X.room, X.hears, X.method, X.code, (X.here.setHeapUsed s₂.heap s₂.slotsUsed).setVm hW'.alike, X.tail, State.WarmedH.trans X.warmed hW', X.limits, X.bytes, X.same.trans (hsame.setVm s.vm)⟩,
      ⟨g, mk, s₂, L, E, ce, rfl, rfl, hx, hce, hcv, hcl, rfl, hL, rfl, rfl⟩, ?_⟩
    show Steps p.tables e below _ (((({ U with heap := s₂.heap, slotsUsed := s₂.slotsUsed } : State).setVm s₂.vm).setTop g).pushFrame (.throwing q))
    rw [← hs₂]
    exact hsteps
end Payer
section Calls
variable {p : Program} {l : Launch} {e : Env} {R : Room} {s : State} {m : MethodId} {args : Array Value} {below : List Frame} {meth : Method} {c : Code} {T : State} {locs : List Loc} {cells slots : Nat}
theorem vx_callV (X : Stand p l e R s m args below meth c T locs cells slots) (hexec : p.tables.exec = Jvm.exec) {own C : String} {index : Nat} {y : MethodName} {bytes : ByteArray} {maxL : Nat} {ret : Option FieldType}
    (hown : s.vm.findClass own = some m.cls) (hlink : (Cond.methodLink own index y).before args s = true) (hinst : (Cond.instanceMethod y).before args s = true) (hsel : (Cond.selects C y y).before args s = true)
    (hcode : (Cond.code y bytes maxL ret).before args s = true) (hy : y.cls ≠ "java/lang/invoke/MethodHandle" ∧ y.cls ≠ "java/lang/invoke/VarHandle")
    {W9 : Nat} {Pre : Pt → Array Value → Prop} {Post : Pt → Array Value → Option Value → Pt → Prop} {PostX : Pt → Array Value → Addr → Pt → Prop} (hK : vx_Back l R p e below s args y 3 W9 Pre Post PostX)
    {b : Addr} {cellB : Cell} (hcell : T.heap[b]? = some cellB) (hobj : cellB.vm.isStatics = false) (hcls : s.vm.findClass C = some cellB.cls)
    {g : JFrame} (hg : g.method = m) (hsize : g.locals.size = c.maxLocals) {argsL rest : List Value} (hlen : ∀ sig, parseMethodDescriptor y.desc = some sig → argsL.length = sig.parameters.length)
    (hstack : g.stack = argsL.reverse ++ .ref b :: rest) (hW : 2 * g.monitorRoom + (rest.map fun v => v.category).sum ≤ W9) (hdg : decode c.code g.pc = .ok (.invokevirtual index, 3))
    (hpre : ∀ vm₁, s.WarmedH vm₁ → Pre ⟨T.setVm vm₁, locs, cells, slots⟩ (Value.ref b :: argsL).toArray) :
    (∃ (v : Option Value) (vm₁ : Vm) (B : Pt), s.WarmedH vm₁ ∧ Stand p l e R s m args below meth c B.U B.locs B.cells B.slots ∧ Post ⟨T.setVm vm₁, locs, cells, slots⟩ (Value.ref b :: argsL).toArray v B ∧
      ∀ target, Steps p.tables e below (B.U.setTop { g with pc := g.pc + 3, stack := v.toList ++ rest }) target → Steps p.tables e below (T.setTop g) target) ∨
    (∃ (q : Addr) (vm₁ : Vm) (B : Pt), s.WarmedH vm₁ ∧ Stand p l e R s m args below meth c B.U B.locs B.cells B.slots ∧ PostX ⟨T.setVm vm₁, locs, cells, slots⟩ (Value.ref b :: argsL).toArray q B ∧
      Steps p.tables e below (T.setTop g) ((B.U.setTop { g with stack := rest }).pushFrame (.throwing q))) := by
  obtain ⟨mk, methM, hnamed, hmethM, hstM, habM⟩ := Cond.instanceMethod_spec hinst
  obtain ⟨methM', cM, hmethM', -, -, -, -, -, -, hsigM⟩ := Cond.code_spec hnamed hcode
  cases hmethM.symm.trans hmethM'
  obtain ⟨c2, r2, m2, q1, q2, q3, q4, kP, hkP, hkPi⟩ := Cond.selects_spec hsel
  cases hcls.symm.trans q1
  cases (State.methodFound?_of_named hnamed hy).symm.trans q2
  cases hnamed.symm.trans q3
  have hselP : selectMethod e.platform s.vm cellB.cls mk = .method mk := by rw [Launch.admits_selectMethod X.admits]; exact q4
  obtain ⟨vm₁, X₁, hstep₁⟩ := X.invokevirtual hexec hown hlink hnamed hmethM hstM hkP hkPi hy (a := b) (cell := cellB) hcell
    (fun z h => by rw [h] at hobj; cases hobj) hselP hmethM habM hkP hkPi (g := g) hg (argsL := argsL) (rest := rest) (hlen _ hsigM) hstack hdg
  rcases hK m meth c ⟨T.setVm vm₁, locs, cells, slots⟩ { g with stack := rest } (.invokevirtual index) mk (Value.ref b :: argsL).toArray X₁ hg hsize hdg hW (X₁.named hnamed) (hpre vm₁ X₁.warmed) with ⟨v, B, X', hpost, hsteps⟩ | ⟨q, B, X', hpost, hsteps⟩
  · exact Or.inl ⟨v, vm₁, B, X₁.warmed, X', hpost, fun target h => hstep₁ _ fun acts => by rw [doInvoke_state]; exact hsteps.trans h⟩
  · exact Or.inr ⟨q, vm₁, B, X₁.warmed, X', hpost, hstep₁ _ fun acts => by rw [doInvoke_state]; exact hsteps⟩
theorem vx_callS (X : Stand p l e R s m args below meth c T locs cells slots) (hexec : p.tables.exec = Jvm.exec) {own : String} {index : Nat} {y : MethodName} {bytes : ByteArray} {maxL : Nat} {ret : Option FieldType}
    (hown : s.vm.findClass own = some m.cls) (hlink : (Cond.methodLink own index y).before args s = true) (hstat : (Cond.static y).before args s = true) (hinit : (Cond.initialized y.cls).before args s = true)
    (hcode : (Cond.code y bytes maxL ret).before args s = true) (hy : y.cls ≠ "java/lang/invoke/MethodHandle" ∧ y.cls ≠ "java/lang/invoke/VarHandle")
    {W9 : Nat} {Pre : Pt → Array Value → Prop} {Post : Pt → Array Value → Option Value → Pt → Prop} {PostX : Pt → Array Value → Addr → Pt → Prop} (hK : vx_Back l R p e below s args y 3 W9 Pre Post PostX)
    {g : JFrame} (hg : g.method = m) (hsize : g.locals.size = c.maxLocals) {argsL rest : List Value} (hlen : ∀ sig, parseMethodDescriptor y.desc = some sig → argsL.length = sig.parameters.length)
    (hstack : g.stack = argsL.reverse ++ rest) (hW : 2 * g.monitorRoom + (rest.map fun v => v.category).sum ≤ W9) (hdg : decode c.code g.pc = .ok (.invokestatic index, 3))
    (hpre : ∀ vm₁, s.WarmedH vm₁ → Pre ⟨T.setVm vm₁, locs, cells, slots⟩ argsL.toArray) :
    (∃ (v : Option Value) (vm₁ : Vm) (B : Pt), s.WarmedH vm₁ ∧ Stand p l e R s m args below meth c B.U B.locs B.cells B.slots ∧ Post ⟨T.setVm vm₁, locs, cells, slots⟩ argsL.toArray v B ∧
      ∀ target, Steps p.tables e below (B.U.setTop { g with pc := g.pc + 3, stack := v.toList ++ rest }) target → Steps p.tables e below (T.setTop g) target) ∨
    (∃ (q : Addr) (vm₁ : Vm) (B : Pt), s.WarmedH vm₁ ∧ Stand p l e R s m args below meth c B.U B.locs B.cells B.slots ∧ PostX ⟨T.setVm vm₁, locs, cells, slots⟩ argsL.toArray q B ∧
      Steps p.tables e below (T.setTop g) ((B.U.setTop { g with stack := rest }).pushFrame (.throwing q))) := by
  obtain ⟨mk, hnamed⟩ := Cond.code_named hcode
  obtain ⟨methM, cM, hmethM, -, -, -, -, -, -, hsigM⟩ := Cond.code_spec hnamed hcode
  have hstatic : methM.isStatic = true := Cond.static_spec hnamed hmethM hstat
  obtain ⟨kP, hkP, -⟩ := className_of_methodNamed hnamed
  have hinitP : kP.init = .initialized := Cond.initialized_spec (findClass_of_methodNamed hnamed) hkP hinit
  obtain ⟨vm₁, X₁, hstep₁⟩ := X.invokestatic hexec hown hlink hnamed hmethM hstatic hkP hinitP hy (g := g) hg (argsL := argsL) (rest := rest) (hlen _ hsigM) hstack hdg
  rcases hK m meth c ⟨T.setVm vm₁, locs, cells, slots⟩ { g with stack := rest } (.invokestatic index) mk argsL.toArray X₁ hg hsize hdg hW (X₁.named hnamed) (hpre vm₁ X₁.warmed) with ⟨v, B, X', hpost, hsteps⟩ | ⟨q, B, X', hpost, hsteps⟩
  · exact Or.inl ⟨v, vm₁, B, X₁.warmed, X', hpost, fun target h => hstep₁ _ fun acts => by rw [doInvoke_state]; exact hsteps.trans h⟩
  · exact Or.inr ⟨q, vm₁, B, X₁.warmed, X', hpost, hstep₁ _ fun acts => by rw [doInvoke_state]; exact hsteps⟩
end Calls
theorem vx_cls {s : State} {T : State} {vm₁ : Vm} {E : String} {k : ClassId} (hW : s.WarmedH vm₁) (h : (T.setVm vm₁).vm.findClass E = some k) : s.vm.findClass E = some k := by
  have h1 : vm₁.findClass E = some k := h
  rw [hW.alike.findClass] at h1
  exact h1
/-- the method's frame g, with q thrown over it -/
def vx_W (p : Program) (l : Launch) (e : Env) (R : Room) (s : State) (m : MethodId) (args : Array Value) (below : List Frame) (meth : Method) (c : Code) (H : Heap) (locs : List Loc) (cells slots : Nat) (Q : State → Prop) (g : JFrame) (q : Addr) : Prop :=
  ∀ T : State, T.heap = H → Stand p l e R s m args below meth c T locs cells slots → ∃ t, Steps p.tables e below ((T.setTop g).pushFrame (.throwing q)) t ∧ Q t
def vx_Run (p : Program) (l : Launch) (e : Env) (R : Room) (s : State) (m : MethodId) (args : Array Value) (below : List Frame) (meth : Method) (c : Code) (H : Heap) (locs : List Loc) (cells slots mc ms : Nat) (g : JFrame) (rest : List Value) (Qa : State → Outcome → State → Prop) (XC : String → State → State → Prop) (free : Addr → Prop) : Prop :=
  ∀ T : State, T.heap = H → Stand p l e R s m args below meth c T locs cells slots →
    (∃ (v : Option Value) (st₀ t T' : State) (L : List Loc), st₀.heap = H ∧ Stand p l e R s m args below meth c T' (locs ++ L) (cells + mc) (slots + ms) ∧ (∀ q ∈ L, free q.base) ∧ T'.heap = t.heap ∧ T'.vm = t.vm ∧ Qa st₀ (.returned v) t ∧
      Goes p e below T g T' { g with pc := g.pc + 3, stack := v.toList ++ rest }) ∨
    (∃ (q : Addr) (st₀ t T' : State) (L : List Loc) (E : String) (ce : Cell), st₀.heap = H ∧ Stand p l e R s m args below meth c T' (locs ++ L) (cells + mc) (slots + ms) ∧ (∀ z ∈ L, free z.base) ∧ T'.heap = t.heap ∧ T'.vm = t.vm ∧ XC E st₀ t ∧ t.heap[q]? = some ce ∧ ce.vm = .none ∧ s.vm.findClass E = some ce.cls ∧
      Steps p.tables e below (T.setTop g) ((T'.setTop { g with stack := rest }).pushFrame (.throwing q)))
def vx_X {S : Type} (px : S → Prop) (B : String → S → State → Prop) (A : Nat → Prop) : String → State → State → Prop := fun E st t => ∃ u : S, px u ∧ B E u t ∧ va_F A st t
section Runs
variable {p : Program} {l : Launch} {e : Env} {R : Room} {s : State} {m : MethodId} {args : Array Value} {below : List Frame} {meth : Method} {c : Code} {H : Heap} {locs : List Loc} {cells slots : Nat}
variable {y : MethodName} {bytes cc : ByteArray} {maxL nL mc ms n index : Nat} {ret : Option FieldType} {ws : List Cond} {rm : Room} {Pc : Array Value → State → Prop} {Qc : Array Value → State → Outcome → State → Prop} {XC : String → State → State → Prop} {free : Addr → Prop} {Ts : List Cond} {own C : String} {b : Addr} {As rest : List Value} {g : JFrame}
theorem vx_callBack (cb : CallB R s args own index y bytes maxL ret ws rm mc ms n) (hM : vx_Met l y ws rm Pc Qc XC mc ms free) (hbl : FrameBlind Pc) : vx_Back l R p e below s args y 3 8 (PreOf R mc ms Pc) (PostOf Qc mc ms free) (vx_Post XC mc ms free) := by
  obtain ⟨hrc, hrs, hfr, hlo, hws, hcw, -, hini, -⟩ := cb
  exact vx_back (bytes := bytes) (maxL := maxL) (ret := ret) hM hbl hrc hrs hfr hlo hws hcw (fun a' U hW => word_at hW (Or.inl (by first | rfl | simp [Cond.onTables, Cond.keeps, Cond.steady])) hini)
theorem vx_runV (S : CallFix p m c cc nL s args Ts own) (hM : vx_Met l y ws rm Pc Qc XC mc ms free) (cw : CallW R s args own C index y bytes maxL ret ws rm mc ms n) (hp : PreV s H C b Pc As)
    (hg : g.method = m) (hn : As.length = n) (hsize : g.locals.size = nL) (hstack : g.stack = As.reverse ++ .ref b :: rest) (hW : 2 * g.monitorRoom + (rest.map fun v => v.category).sum ≤ 8) (hdg : decode cc g.pc = .ok (.invokevirtual index, 3)) (hf : cells + mc ≤ R.cells ∧ slots + ms ≤ R.slots) :
    vx_Run p l e R s m args below meth c H locs cells slots mc ms g rest (Qc (Value.ref b :: As).toArray) XC free := by
  have hK : vx_Back l R p e below s args y 3 8 (PreOf R mc ms Pc) (PostOf Qc mc ms free) (vx_Post XC mc ms free) := vx_callBack cw.1 hM hp.1
  obtain ⟨⟨-, -, -, -, -, -, hcode, -, hy, hlen, hl⟩, hin, hse⟩ := cw
  obtain ⟨hx, hb, hml, ho, -⟩ := S
  obtain ⟨-, ⟨cellB, hcB, hoB, hclB⟩, hPc⟩ := hp
  intro T hT X
  rcases vx_callV X hx (C := C) (bytes := bytes) (maxL := maxL) (ret := ret) ho hl hin hse hcode hy hK (by rw [hT]; exact hcB) hoB hclB hg (hsize.trans hml.symm) (argsL := As) (rest := rest) (fun sig h => hn.trans (hlen sig h)) hstack hW (by rw [hb]; exact hdg)
    (fun vm₁ hW₁ => ⟨hf.1, hf.2, hPc (T.setVm vm₁) hT hW₁⟩) with ⟨v, vm₁, ⟨U', l2, c2, s2⟩, hW₁, X', ⟨g', mk, t, L, e1, e2, hq, h1, hL, h2, h3⟩, st⟩ | ⟨q, vm₁, ⟨U', l2, c2, s2⟩, hW₁, X', ⟨g', mk, t, L, E, ce, e1, e2, hq, hce, hcv, hcl, h1, hL, h2, h3⟩, st⟩
  · dsimp only [Pt.U, Pt.locs, Pt.cells, Pt.slots] at X' e1 e2 h1 h2 h3 st
    subst h1; subst h2; subst h3
    exact Or.inl ⟨v, (T.setVm vm₁).calling g' mk (Value.ref b :: As).toArray, t, U', L, hT, X', hL, e1, e2, hq, st⟩
  · dsimp only [Pt.U, Pt.locs, Pt.cells, Pt.slots] at X' e1 e2 h1 h2 h3 st hcl
    subst h1; subst h2; subst h3
    exact Or.inr ⟨q, (T.setVm vm₁).calling g' mk (Value.ref b :: As).toArray, t, U', L, E, ce, hT, X', hL, e1, e2, hq, hce, hcv, vx_cls hW₁ hcl, st⟩
theorem vx_runS (S : CallFix p m c cc nL s args Ts own) (hM : vx_Met l y ws rm Pc Qc XC mc ms free) (cw : CallB R s args own index y bytes maxL ret ws rm mc ms n ∧ (Cond.static y).before args s = true) (hp : PreS s H Pc As)
    (hg : g.method = m) (hn : As.length = n) (hsize : g.locals.size = nL) (hstack : g.stack = As.reverse ++ rest) (hW : 2 * g.monitorRoom + (rest.map fun v => v.category).sum ≤ 8) (hdg : decode cc g.pc = .ok (.invokestatic index, 3)) (hf : cells + mc ≤ R.cells ∧ slots + ms ≤ R.slots) :
    vx_Run p l e R s m args below meth c H locs cells slots mc ms g rest (Qc As.toArray) XC free := by
  have hK : vx_Back l R p e below s args y 3 8 (PreOf R mc ms Pc) (PostOf Qc mc ms free) (vx_Post XC mc ms free) := vx_callBack cw.1 hM hp.1
  obtain ⟨⟨-, -, -, -, -, -, hcode, hini, hy, hlen, hl⟩, hstt⟩ := cw
  obtain ⟨hx, hb, hml, ho, -⟩ := S
  intro T hT X
  rcases vx_callS X hx (bytes := bytes) (maxL := maxL) (ret := ret) ho hl hstt hini hcode hy hK hg (hsize.trans hml.symm) (argsL := As) (rest := rest) (fun sig h => hn.trans (hlen sig h)) hstack hW (by rw [hb]; exact hdg)
    (fun vm₁ hW₁ => ⟨hf.1, hf.2, hp.2 (T.setVm vm₁) hT hW₁⟩) with ⟨v, vm₁, ⟨U', l2, c2, s2⟩, hW₁, X', ⟨g', mk, t, L, e1, e2, hq, h1, hL, h2, h3⟩, st⟩ | ⟨q, vm₁, ⟨U', l2, c2, s2⟩, hW₁, X', ⟨g', mk, t, L, E, ce, e1, e2, hq, hce, hcv, hcl, h1, hL, h2, h3⟩, st⟩
  · dsimp only [Pt.U, Pt.locs, Pt.cells, Pt.slots] at X' e1 e2 h1 h2 h3 st
    subst h1; subst h2; subst h3
    exact Or.inl ⟨v, (T.setVm vm₁).calling g' mk As.toArray, t, U', L, hT, X', hL, e1, e2, hq, st⟩
  · dsimp only [Pt.U, Pt.locs, Pt.cells, Pt.slots] at X' e1 e2 h1 h2 h3 st hcl
    subst h1; subst h2; subst h3
    exact Or.inr ⟨q, (T.setVm vm₁).calling g' mk As.toArray, t, U', L, E, ce, hT, X', hL, e1, e2, hq, hce, hcv, vx_cls hW₁ hcl, st⟩
end Runs
section Rows
variable {p : Program} {l : Launch} {e : Env} {R : Room} {s : State} {m : MethodId} {args : Array Value} {below : List Frame} {meth : Method} {c : Code} {H : Heap} {locs : List Loc} {cells slots : Nat} {Q : State → Prop}
variable {mc ms : Nat} {free : Addr → Prop} {A0 A1 : Nat → Prop} {H0 : Heap} {a : Array Value} {pc : Nat} {ls : Array Slot} {st0 rest : List Value}
theorem vx_keep {st₀ t T' : State} {L : List Loc} (h0 : st₀.heap = H) (e1 : T'.heap = t.heap) (hS : va_S A0 H0 H locs) (hA : ∀ q, q < H.size → A1 q → A0 q) (hf : ∀ q, free q → A0 q) (hL : ∀ q ∈ L, free q.base) (hF : va_F A1 st₀ t) :
    H.size ≤ T'.heap.size ∧ (∀ q : Nat, q < H.size → ¬ A1 q → T'.heap[q]? = H[q]?) ∧ va_S A0 H0 T'.heap (locs ++ L) := by
  obtain ⟨hz, hk⟩ := hF
  rw [h0] at hz hk
  exact ⟨by rw [e1]; exact hz, fun q h1 h2 => by rw [e1]; exact hk q h1 h2,
    ⟨Nat.le_trans hS.1 (by rw [e1]; exact hz), fun q h1 h2 => by rw [e1, hk q (Nat.lt_of_lt_of_le h1 hS.1) (fun z => h2 (hA q (Nat.lt_of_lt_of_le h1 hS.1) z))]; exact hS.2.1 q h1 h2, fun q hq => by
      rcases List.mem_append.mp hq with h | h
      · exact hS.2.2 q h
      · exact hf _ (hL q h)⟩⟩
theorem vx_calli {S SX : Type} {post : Int32 → S → Prop} {px : SX → Prop} {B : S → State → Prop} {BX : String → SX → State → Prop} {AX : Nat → Prop} (hr : vx_Run p l e R s m args below meth c H locs cells slots mc ms (F0 m pc ls st0) rest (va_Qi post B A1 a) (vx_X px BX AX) free) (hS : va_S A0 H0 H locs) (hA : ∀ q, q < H.size → A1 q → A0 q) (hf : ∀ q, free q → A0 q) (hAX : ∀ q, q < H.size → AX q → A0 q)
    (kx : ∀ (E : String) (ce : Cell) (q9 : Addr) (u : SX) (t : State) (H1 : Heap) (locs1 : List Loc), t.heap = H1 → s.vm.Alike t.vm → px u → BX E u t → H.size ≤ H1.size → (∀ q : Nat, q < H.size → ¬ AX q → H1[q]? = H[q]?) → va_S A0 H0 H1 locs1 → H1[q9]? = some ce → ce.vm = .none → s.vm.findClass E = some ce.cls → vx_W p l e R s m args below meth c H1 locs1 (cells + mc) (slots + ms) Q (F0 m pc ls rest) q9)
    (kk : ∀ (r : Int32) (u : S) (t : State) (H1 : Heap) (locs1 : List Loc), t.heap = H1 → s.vm.Alike t.vm → post r u → B u t → H.size ≤ H1.size → (∀ q : Nat, q < H.size → ¬ A1 q → H1[q]? = H[q]?) → va_S A0 H0 H1 locs1 → W p l e R s m args below meth c H1 locs1 (cells + mc) (slots + ms) Q (F0 m (pc + 3) ls (.int r :: rest))) : W p l e R s m args below meth c H locs cells slots Q (F0 m pc ls st0) := by
  intro T hT X
  rcases hr T hT X with ⟨v, st₀, t, T', L, h0, X', hL, e1, e2, ⟨⟨r, u, hv, hp, hb⟩, hF⟩, st⟩ | ⟨q, st₀, t, T', L, E, ce, h0, X', hL, e1, e2, ⟨u, hp, hb, hF⟩, hce, hcv, hcl, st⟩
  · cases hv
    obtain ⟨k1, k2, k3⟩ := vx_keep h0 e1 hS hA hf hL hF
    obtain ⟨t2, a1, b1⟩ := kk r u t T'.heap (locs ++ L) e1.symm (by rw [← e2]; exact X'.warmed.alike) hp hb k1 k2 k3 T' rfl X'
    exact ⟨t2, st t2 a1, b1⟩
  · obtain ⟨k1, k2, k3⟩ := vx_keep h0 e1 hS hAX hf hL hF
    obtain ⟨t2, a1, b1⟩ := kx E ce q u t T'.heap (locs ++ L) e1.symm (by rw [← e2]; exact X'.warmed.alike) hp hb k1 k2 k3 (by rw [e1]; exact hce) hcv hcl T' rfl X'
    exact ⟨t2, st.trans a1, b1⟩
theorem vx_calll {S SX : Type} {post : Int64 → S → Prop} {px : SX → Prop} {B : S → State → Prop} {BX : String → SX → State → Prop} {AX : Nat → Prop} (hr : vx_Run p l e R s m args below meth c H locs cells slots mc ms (F0 m pc ls st0) rest (va_Ql post B A1 a) (vx_X px BX AX) free) (hS : va_S A0 H0 H locs) (hA : ∀ q, q < H.size → A1 q → A0 q) (hf : ∀ q, free q → A0 q) (hAX : ∀ q, q < H.size → AX q → A0 q)
    (kx : ∀ (E : String) (ce : Cell) (q9 : Addr) (u : SX) (t : State) (H1 : Heap) (locs1 : List Loc), t.heap = H1 → s.vm.Alike t.vm → px u → BX E u t → H.size ≤ H1.size → (∀ q : Nat, q < H.size → ¬ AX q → H1[q]? = H[q]?) → va_S A0 H0 H1 locs1 → H1[q9]? = some ce → ce.vm = .none → s.vm.findClass E = some ce.cls → vx_W p l e R s m args below meth c H1 locs1 (cells + mc) (slots + ms) Q (F0 m pc ls rest) q9)
    (kk : ∀ (r : Int64) (u : S) (t : State) (H1 : Heap) (locs1 : List Loc), t.heap = H1 → s.vm.Alike t.vm → post r u → B u t → H.size ≤ H1.size → (∀ q : Nat, q < H.size → ¬ A1 q → H1[q]? = H[q]?) → va_S A0 H0 H1 locs1 → W p l e R s m args below meth c H1 locs1 (cells + mc) (slots + ms) Q (F0 m (pc + 3) ls (.long r :: rest))) : W p l e R s m args below meth c H locs cells slots Q (F0 m pc ls st0) := by
  intro T hT X
  rcases hr T hT X with ⟨v, st₀, t, T', L, h0, X', hL, e1, e2, ⟨⟨r, u, hv, hp, hb⟩, hF⟩, st⟩ | ⟨q, st₀, t, T', L, E, ce, h0, X', hL, e1, e2, ⟨u, hp, hb, hF⟩, hce, hcv, hcl, st⟩
  · cases hv
    obtain ⟨k1, k2, k3⟩ := vx_keep h0 e1 hS hA hf hL hF
    obtain ⟨t2, a1, b1⟩ := kk r u t T'.heap (locs ++ L) e1.symm (by rw [← e2]; exact X'.warmed.alike) hp hb k1 k2 k3 T' rfl X'
    exact ⟨t2, st t2 a1, b1⟩
  · obtain ⟨k1, k2, k3⟩ := vx_keep h0 e1 hS hAX hf hL hF
    obtain ⟨t2, a1, b1⟩ := kx E ce q u t T'.heap (locs ++ L) e1.symm (by rw [← e2]; exact X'.warmed.alike) hp hb k1 k2 k3 (by rw [e1]; exact hce) hcv hcl T' rfl X'
    exact ⟨t2, st.trans a1, b1⟩
theorem vx_callf {S SX : Type} {post : UInt32 → S → Prop} {px : SX → Prop} {B : S → State → Prop} {BX : String → SX → State → Prop} {AX : Nat → Prop} (hr : vx_Run p l e R s m args below meth c H locs cells slots mc ms (F0 m pc ls st0) rest (va_Qf post B A1 a) (vx_X px BX AX) free) (hS : va_S A0 H0 H locs) (hA : ∀ q, q < H.size → A1 q → A0 q) (hf : ∀ q, free q → A0 q) (hAX : ∀ q, q < H.size → AX q → A0 q)
    (kx : ∀ (E : String) (ce : Cell) (q9 : Addr) (u : SX) (t : State) (H1 : Heap) (locs1 : List Loc), t.heap = H1 → s.vm.Alike t.vm → px u → BX E u t → H.size ≤ H1.size → (∀ q : Nat, q < H.size → ¬ AX q → H1[q]? = H[q]?) → va_S A0 H0 H1 locs1 → H1[q9]? = some ce → ce.vm = .none → s.vm.findClass E = some ce.cls → vx_W p l e R s m args below meth c H1 locs1 (cells + mc) (slots + ms) Q (F0 m pc ls rest) q9)
    (kk : ∀ (r : UInt32) (u : S) (t : State) (H1 : Heap) (locs1 : List Loc), t.heap = H1 → s.vm.Alike t.vm → post r u → B u t → H.size ≤ H1.size → (∀ q : Nat, q < H.size → ¬ A1 q → H1[q]? = H[q]?) → va_S A0 H0 H1 locs1 → W p l e R s m args below meth c H1 locs1 (cells + mc) (slots + ms) Q (F0 m (pc + 3) ls (.float r :: rest))) : W p l e R s m args below meth c H locs cells slots Q (F0 m pc ls st0) := by
  intro T hT X
  rcases hr T hT X with ⟨v, st₀, t, T', L, h0, X', hL, e1, e2, ⟨⟨r, u, hv, hp, hb⟩, hF⟩, st⟩ | ⟨q, st₀, t, T', L, E, ce, h0, X', hL, e1, e2, ⟨u, hp, hb, hF⟩, hce, hcv, hcl, st⟩
  · cases hv
    obtain ⟨k1, k2, k3⟩ := vx_keep h0 e1 hS hA hf hL hF
    obtain ⟨t2, a1, b1⟩ := kk r u t T'.heap (locs ++ L) e1.symm (by rw [← e2]; exact X'.warmed.alike) hp hb k1 k2 k3 T' rfl X'
    exact ⟨t2, st t2 a1, b1⟩
  · obtain ⟨k1, k2, k3⟩ := vx_keep h0 e1 hS hAX hf hL hF
    obtain ⟨t2, a1, b1⟩ := kx E ce q u t T'.heap (locs ++ L) e1.symm (by rw [← e2]; exact X'.warmed.alike) hp hb k1 k2 k3 (by rw [e1]; exact hce) hcv hcl T' rfl X'
    exact ⟨t2, st.trans a1, b1⟩
theorem vx_calld {S SX : Type} {post : UInt64 → S → Prop} {px : SX → Prop} {B : S → State → Prop} {BX : String → SX → State → Prop} {AX : Nat → Prop} (hr : vx_Run p l e R s m args below meth c H locs cells slots mc ms (F0 m pc ls st0) rest (va_Qd post B A1 a) (vx_X px BX AX) free) (hS : va_S A0 H0 H locs) (hA : ∀ q, q < H.size → A1 q → A0 q) (hf : ∀ q, free q → A0 q) (hAX : ∀ q, q < H.size → AX q → A0 q)
    (kx : ∀ (E : String) (ce : Cell) (q9 : Addr) (u : SX) (t : State) (H1 : Heap) (locs1 : List Loc), t.heap = H1 → s.vm.Alike t.vm → px u → BX E u t → H.size ≤ H1.size → (∀ q : Nat, q < H.size → ¬ AX q → H1[q]? = H[q]?) → va_S A0 H0 H1 locs1 → H1[q9]? = some ce → ce.vm = .none → s.vm.findClass E = some ce.cls → vx_W p l e R s m args below meth c H1 locs1 (cells + mc) (slots + ms) Q (F0 m pc ls rest) q9)
    (kk : ∀ (r : UInt64) (u : S) (t : State) (H1 : Heap) (locs1 : List Loc), t.heap = H1 → s.vm.Alike t.vm → post r u → B u t → H.size ≤ H1.size → (∀ q : Nat, q < H.size → ¬ A1 q → H1[q]? = H[q]?) → va_S A0 H0 H1 locs1 → W p l e R s m args below meth c H1 locs1 (cells + mc) (slots + ms) Q (F0 m (pc + 3) ls (.double r :: rest))) : W p l e R s m args below meth c H locs cells slots Q (F0 m pc ls st0) := by
  intro T hT X
  rcases hr T hT X with ⟨v, st₀, t, T', L, h0, X', hL, e1, e2, ⟨⟨r, u, hv, hp, hb⟩, hF⟩, st⟩ | ⟨q, st₀, t, T', L, E, ce, h0, X', hL, e1, e2, ⟨u, hp, hb, hF⟩, hce, hcv, hcl, st⟩
  · cases hv
    obtain ⟨k1, k2, k3⟩ := vx_keep h0 e1 hS hA hf hL hF
    obtain ⟨t2, a1, b1⟩ := kk r u t T'.heap (locs ++ L) e1.symm (by rw [← e2]; exact X'.warmed.alike) hp hb k1 k2 k3 T' rfl X'
    exact ⟨t2, st t2 a1, b1⟩
  · obtain ⟨k1, k2, k3⟩ := vx_keep h0 e1 hS hAX hf hL hF
    obtain ⟨t2, a1, b1⟩ := kx E ce q u t T'.heap (locs ++ L) e1.symm (by rw [← e2]; exact X'.warmed.alike) hp hb k1 k2 k3 (by rw [e1]; exact hce) hcv hcl T' rfl X'
    exact ⟨t2, st.trans a1, b1⟩
theorem vx_callv {S SX : Type} {post : S → Prop} {px : SX → Prop} {B : S → State → Prop} {BX : String → SX → State → Prop} {AX : Nat → Prop} (hr : vx_Run p l e R s m args below meth c H locs cells slots mc ms (F0 m pc ls st0) rest (va_Qv post B A1 a) (vx_X px BX AX) free) (hS : va_S A0 H0 H locs) (hA : ∀ q, q < H.size → A1 q → A0 q) (hf : ∀ q, free q → A0 q) (hAX : ∀ q, q < H.size → AX q → A0 q)
    (kx : ∀ (E : String) (ce : Cell) (q9 : Addr) (u : SX) (t : State) (H1 : Heap) (locs1 : List Loc), t.heap = H1 → s.vm.Alike t.vm → px u → BX E u t → H.size ≤ H1.size → (∀ q : Nat, q < H.size → ¬ AX q → H1[q]? = H[q]?) → va_S A0 H0 H1 locs1 → H1[q9]? = some ce → ce.vm = .none → s.vm.findClass E = some ce.cls → vx_W p l e R s m args below meth c H1 locs1 (cells + mc) (slots + ms) Q (F0 m pc ls rest) q9)
    (kk : ∀ (u : S) (t : State) (H1 : Heap) (locs1 : List Loc), t.heap = H1 → s.vm.Alike t.vm → post u → B u t → H.size ≤ H1.size → (∀ q : Nat, q < H.size → ¬ A1 q → H1[q]? = H[q]?) → va_S A0 H0 H1 locs1 → W p l e R s m args below meth c H1 locs1 (cells + mc) (slots + ms) Q (F0 m (pc + 3) ls (rest))) : W p l e R s m args below meth c H locs cells slots Q (F0 m pc ls st0) := by
  intro T hT X
  rcases hr T hT X with ⟨v, st₀, t, T', L, h0, X', hL, e1, e2, ⟨⟨u, hv, hp, hb⟩, hF⟩, st⟩ | ⟨q, st₀, t, T', L, E, ce, h0, X', hL, e1, e2, ⟨u, hp, hb, hF⟩, hce, hcv, hcl, st⟩
  · cases hv
    obtain ⟨k1, k2, k3⟩ := vx_keep h0 e1 hS hA hf hL hF
    obtain ⟨t2, a1, b1⟩ := kk u t T'.heap (locs ++ L) e1.symm (by rw [← e2]; exact X'.warmed.alike) hp hb k1 k2 k3 T' rfl X'
    exact ⟨t2, st t2 a1, b1⟩
  · obtain ⟨k1, k2, k3⟩ := vx_keep h0 e1 hS hAX hf hL hF
    obtain ⟨t2, a1, b1⟩ := kx E ce q u t T'.heap (locs ++ L) e1.symm (by rw [← e2]; exact X'.warmed.alike) hp hb k1 k2 k3 (by rw [e1]; exact hce) hcv hcl T' rfl X'
    exact ⟨t2, st.trans a1, b1⟩
/-- caught by the row x of this method's table; the rows ahead don't take it -/
theorem vx_catch {own name : String} {E : String} {ce : Cell} {q : Addr} (hown : s.vm.findClass own = some m.cls) (pre : List ExceptionTableEntry) (x : ExceptionTableEntry) (suf : List ExceptionTableEntry) (hsplit : c.exceptionTable.toList = pre ++ x :: suf)
    (hpass : ∀ z ∈ pre, covers z pc = false ∨ (z.catchType ≠ 0 ∧ ∃ nm : String, (Cond.classLink own z.catchType nm).before args s = true ∧ va_Nc E nm s)) (hx : covers x pc = true) (h0 : x.catchType ≠ 0)
    (hlink : (Cond.classLink own x.catchType name).before args s = true) (hcast : (Cond.castable E name).before args s = true) (hcell : H[q]? = some ce) (hv : ce.vm = .none) (hcl : s.vm.findClass E = some ce.cls)
    (kk : W p l e R s m args below meth c H locs cells slots Q (F0 m x.handlerPc ls [.ref q])) : vx_W p l e R s m args below meth c H locs cells slots Q (F0 m pc ls rest) q := by
  intro T hT X
  have hpl : e.platform.magicAccessors = ({} : Platform).magicAccessors := by rw [X.admits.platform]
  obtain ⟨c3, c4, hc3, hc4, hasg⟩ := Cond.castable_spec hcast
  cases Option.some.inj (hc3.symm.trans hcl)
  obtain ⟨c5, hc5, hcl5⟩ := Cond.classLink_spec hown hlink e.platform hpl
  cases Option.some.inj (hc4.symm.trans hc5)
  obtain ⟨vm', X', st⟩ := X.thenCaughtThrough q (g := F0 m pc ls rest) rfl (Steps.refl _) (by rw [hT]; exact hcell) (by rw [hv]; rfl) (by obtain ⟨k9, h9, -⟩ := Vm.findClass_spec hcl; exact ⟨k9, h9⟩) pre x suf hsplit
    (fun z hz => by
      rcases hpass z hz with h | ⟨hz0, nm, hl1, hn1⟩
      · exact Or.inl h
      · obtain ⟨c6, hc6, hcl6⟩ := Cond.classLink_spec hown hl1 e.platform hpl
        obtain ⟨a8, b8, h1, h2, h3⟩ := hn1
        cases Option.some.inj (h1.symm.trans hcl)
        cases Option.some.inj (h2.symm.trans hc6)
        exact Or.inr ⟨hz0, _, hcl6, h3⟩) hx (Or.inr ⟨h0, c4, hcl5, hasg⟩)
  obtain ⟨t, a1, b1⟩ := kk (T.setVm vm') hT X'
  exact ⟨t, st.trans a1, b1⟩
end Rows
section Ends
variable {p : Program} {l : Launch} {e : Env} {R : Room} {s : State} {m : MethodId} {args : Array Value} {below : List Frame} {meth : Method} {c : Code} {H : Heap} {locs : List Loc} {cells slots : Nat} {Q : State → Prop}
variable {mc ms : Nat} {free : Addr → Prop} {A0 A1 : Nat → Prop} {H0 : Heap} {a : Array Value} {ls : Array Slot} {st0 rest : List Value}
variable {Qc : Array Value → State → Outcome → State → Prop} {XC : String → State → State → Prop}
/-- what a body that may throw owes at its end -/
def vx_MQ (below : List Frame) (Qc : Array Value → State → Outcome → State → Prop) (XC : String → State → State → Prop) (a : Array Value) (s : State) (mc ms : Nat) (free : Addr → Prop) : State → Prop := fun t =>
  ∃ o, t.status = .running ∧ Ended t below o ∧ vx_Q Qc XC mc ms free a s o t
theorem vx_ret {g : JFrame} {mc ms : Nat} (k : W p l e R s m args below meth c H locs cells slots (MQ below Qc args s mc ms free) g) : W p l e R s m args below meth c H locs cells slots (vx_MQ below Qc XC args s mc ms free) g := by
  intro T hT X
  obtain ⟨t, a1, o, b1, b2, b3, b4⟩ := k T hT X
  exact ⟨t, a1, o, b1, b2, Or.inl ⟨b3, b4⟩⟩
/-- not caught here: it goes on to the caller -/
theorem vx_widen {g : JFrame} {q : Addr} {k n : Nat} (h1 : cells ≤ k) (h2 : slots ≤ n) (kk : vx_W p l e R s m args below meth c H locs k n Q g q) : vx_W p l e R s m args below meth c H locs cells slots Q g q := fun T hT X => kk T hT (stand_widen X h1 h2)
theorem vx_out {pc : Nat} {E : String} {ce : Cell} {q : Addr} {mc ms : Nat} (hout : ∀ x ∈ c.exceptionTable.toList, covers x pc = false) (hlocks : meth.locks = false) (hcell : H[q]? = some ce) (hv : ce.vm = .none) (hcl : s.vm.findClass E = some ce.cls)
    (hx : ∀ t : State, t.heap = H → s.vm.Alike t.vm → XC E s t) (hf : ∀ z ∈ locs, free z.base) (hc : cells ≤ mc) (hs : slots ≤ ms) :
    vx_W p l e R s m args below meth c H locs cells slots (vx_MQ below Qc XC args s mc ms free) (F0 m pc ls rest) q := by
  intro T hT X
  obtain ⟨st1, hrun, hend, hW, hsm⟩ := X.leaveThrown q (g := F0 m pc ls rest) rfl rfl rfl hout hlocks
  have hcell9 : (T.setFrames (.throwing q :: below)).heap[q]? = some ce := by
    show T.heap[q]? = some ce
    rw [hT]; exact hcell
  exact ⟨_, st1, .threw q, hrun, hend, Or.inr ⟨q, rfl, E, ce, locs, hx _ hT hW.alike, hcell9, hv, hcl, hW, hsm.mono hc hs, hf⟩⟩
theorem vx_frame {U : State} {k n : Nat} (h : s.sameButNew ({ U with vm := s.vm } : State) locs k n) : s.heap.size ≤ U.heap.size ∧ ∀ q : Nat, q < s.heap.size → (∀ z ∈ locs, z.base ≠ q) → U.heap[q]? = s.heap[q]? := by
  obtain ⟨-, h2, -, -, -, h6⟩ := h
  refine ⟨h2, fun q hq hz => ?_⟩
  obtain ⟨c9, e1, e2, e3, e4⟩ := h6 q _ (Array.getElem?_eq_getElem hq)
  have hs : c9.slots = (s.heap[q]).slots := Array.ext_getElem? fun i => e4 i fun hm => hz _ hm rfl
  have h9 : c9 = s.heap[q] := by
    rw [hs] at e2
    exact e2
  have e5 : U.heap[q]? = some c9 := e1
  rw [e5, h9, Array.getElem?_eq_getElem hq]
/-- the words of a throw but the four that speak of the heap -/
def vx_no (w : Cond) : Bool := decide (w ≠ .isRef (.static Bundle.tN "UNASSIGNED_STACK" Bundle.steD)) && decide (w ≠ .isRef (.static Bundle.tN "SUPPRESSED_SENTINEL" Bundle.listD)) && decide (w ≠ .laysStatic Bundle.tN "UNASSIGNED_STACK" Bundle.steD) && decide (w ≠ .laysStatic Bundle.tN "SUPPRESSED_SENTINEL" Bundle.listD)
def vx_at0 (own : String) (ic : Nat) (X : String) (names : List String) : List Cond := (Bundle.ownAtoms0 own ic X names).filter vx_no
def vx_atS (own : String) (ic : Nat) (X : String) (names : List String) : List Cond := (Bundle.ownAtoms own ic X names).filter vx_no
/-- a word that the tables alone decide, or a good one -/
def vx_ot (w : Cond) : Bool := w.onTables || goodWord w
theorem vx_ot_at {args a' : Array Value} {s U : State} {w : Cond} (hW : s.WarmedH U.vm) (hvm : s.vm = U.vm) (hg : vx_ot w = true) (h : w.before args s = true) : w.before a' U = true := by
  simp only [vx_ot, Bool.or_eq_true] at hg
  rcases hg with hg | hg
  · exact va_tabs hg hvm h
  · exact word_at hW (good_of_word hg) h
/-- a list's words: the good ones out of the method's own list, the others by premises of their own -/
theorem vx_hat {args : Array Value} {s : State} {L B : List Cond} (h1 : ∀ w ∈ L.filter goodWord, w.before args s = true) (h2 : ∀ w ∈ L.filter (fun w => !goodWord w), w ∈ B) (h3 : ∀ w ∈ B, w.before args s = true) : ∀ w ∈ L, w.before args s = true := by
  intro w hw
  by_cases g : goodWord w = true
  · exact h1 w (List.mem_filter.mpr ⟨hw, g⟩)
  · refine h3 w (h2 w (List.mem_filter.mpr ⟨hw, ?_⟩))
    show (!goodWord w) = true
    cases hgw : goodWord w
    · rfl
    · exact absurd hgw g
theorem vx_c {args : Array Value} {s : State} {w : Cond} {B : List Cond} (h : w.before args s = true) (t : ∀ w ∈ B, w.before args s = true) : ∀ w' ∈ w :: B, w'.before args s = true := fun w' h' => (List.mem_cons.mp h').elim (fun e => by rw [e]; exact h) (t w')
theorem vx_n {args : Array Value} {s : State} : ∀ w ∈ ([] : List Cond), w.before args s = true := fun _ h => nomatch h
theorem vx_own {args : Array Value} {s : State} {L : List Cond} (h1 : ∀ w ∈ L.filter vx_no, w.before args s = true)
    (hU : (Cond.isRef (.static Bundle.tN "UNASSIGNED_STACK" Bundle.steD)).before args s = true) (hN : (Cond.isRef (.static Bundle.tN "SUPPRESSED_SENTINEL" Bundle.listD)).before args s = true)
    (lU : (Cond.laysStatic Bundle.tN "UNASSIGNED_STACK" Bundle.steD).before args s = true) (lN : (Cond.laysStatic Bundle.tN "SUPPRESSED_SENTINEL" Bundle.listD).before args s = true) : ∀ w ∈ L, w.before args s = true := by
  intro w hw
  by_cases e1 : w = .isRef (.static Bundle.tN "UNASSIGNED_STACK" Bundle.steD)
  · rw [e1]; exact hU
  · by_cases e2 : w = .isRef (.static Bundle.tN "SUPPRESSED_SENTINEL" Bundle.listD)
    · rw [e2]; exact hN
    · by_cases e3 : w = .laysStatic Bundle.tN "UNASSIGNED_STACK" Bundle.steD
      · rw [e3]; exact lU
      · by_cases e4 : w = .laysStatic Bundle.tN "SUPPRESSED_SENTINEL" Bundle.listD
        · rw [e4]; exact lN
        · exact h1 w (List.mem_filter.mpr ⟨hw, by unfold vx_no; rw [decide_eq_true e1, decide_eq_true e2, decide_eq_true e3, decide_eq_true e4]; rfl⟩)
/-- where a static field lies, its class's statics cell in H -/
def vx_L (C n d : String) (A : Nat → Prop) (U : State) (H : Heap) : Prop := ∃ (c : ClassId) (k : Class) (i : Nat) (f : Field) (a : Nat) (cell : Cell), U.vm.findClass C = some c ∧ U.fieldFound? C n d = some (c, k, i, f) ∧ f.isStatic = true ∧ k.statics = some a ∧ H[a]? = some cell ∧ cell.vm.isStatics = true ∧ cell.cls = c ∧ f.slot < cell.slots.size ∧ k.staticTypes[f.slot]? = some f.type ∧ ¬ A a
theorem vx_L.moved {C n d : String} {A : Nat → Prop} {u U : State} {H : Heap} (hvm : u.vm.Alike U.vm) (h : vx_L C n d A u H) : vx_L C n d A U H := by
  obtain ⟨c, k, i, f, a, cell, h1, h2, h3, h4, h5, h6, h7, h8, h9, h10⟩ := h
  obtain ⟨k', hi', he⟩ := State.fieldFound?_setVm hvm h2
  exact ⟨c, k', i, f, a, cell, by rw [hvm.findClass]; exact h1, hi', h3, by rw [he]; exact h4, h5, h6, h7, h8, by rw [he]; exact h9, h10⟩
theorem vx_L.kept {C n d : String} {A : Nat → Prop} {U : State} {H H1 : Heap} (h : vx_L C n d A U H) (hq : ∀ a : Nat, a < H.size → ¬ A a → H1[a]? = H[a]?) : vx_L C n d A U H1 := by
  obtain ⟨c, k, i, f, a, cell, h1, h2, h3, h4, h5, h6, h7, h8, h9, h10⟩ := h
  exact ⟨c, k, i, f, a, cell, h1, h2, h3, h4, by rw [hq a (Array.getElem?_eq_some_iff.mp h5).1 h10]; exact h5, h6, h7, h8, h9, h10⟩
theorem vx_L.narrow {C n d : String} {A B : Nat → Prop} {U : State} {H : Heap} (h : vx_L C n d A U H) (hAB : ∀ q, B q → A q) : vx_L C n d B U H := by
  obtain ⟨c, k, i, f, a, cell, h1, h2, h3, h4, h5, h6, h7, h8, h9, h10⟩ := h
  exact ⟨c, k, i, f, a, cell, h1, h2, h3, h4, h5, h6, h7, h8, h9, fun z => h10 (hAB _ z)⟩
theorem vx_L.word {C n d : String} {A : Nat → Prop} {s : State} {args : Array Value} (h : vx_L C n d A s s.heap) : (Cond.laysStatic C n d).before args s = true := by
  obtain ⟨c, k, i, f, a, cell, h1, h2, h3, h4, h5, h6, h7, h8, h9, -⟩ := h
  show (Cond.laysStatic C n d).holds args s none s [] = true
  exact Cond.laysStatic_of h1 h2 h3 h4 h5 h6 h7 h8 h9
/-- .. and what it holds: null or some reference -/
def vx_Zq (C n d : String) (A : Nat → Prop) (U : State) (H : Heap) : Prop := va_Zq C n d A U H ∧ vx_L C n d A U H
theorem vx_Zq.moved {C n d : String} {A : Nat → Prop} {u U : State} {H : Heap} (hvm : u.vm.Alike U.vm) (h : vx_Zq C n d A u H) : vx_Zq C n d A U H := ⟨va_Zq.moved hvm h.1, vx_L.moved hvm h.2⟩
theorem vx_Zq.kept {C n d : String} {A : Nat → Prop} {U : State} {H H1 : Heap} (h : vx_Zq C n d A U H) (hq : ∀ a : Nat, a < H.size → ¬ A a → H1[a]? = H[a]?) : vx_Zq C n d A U H1 := ⟨va_Zq.kept h.1 hq, vx_L.kept h.2 hq⟩
theorem vx_Zq.narrow {C n d : String} {A B : Nat → Prop} {U : State} {H : Heap} (h : vx_Zq C n d A U H) (hAB : ∀ q, B q → A q) : vx_Zq C n d B U H := ⟨va_Zq.narrow h.1 hAB, vx_L.narrow h.2 hAB⟩
theorem vx_Zqof {args : Array Value} {s : State} {C n d : String} {A : Nat → Prop} (hl : (Cond.laysStatic C n d).before args s = true) (hini : (Cond.initialized C).before args s = true) (h : (Cond.isRef (.static C n d)).before args s = true) (hA : ∀ a : Nat, a < s.heap.size → ¬ A a) : vx_Zq C n d A s s.heap := by
  refine ⟨va_Zqof hl hini h hA, ?_⟩
  obtain ⟨c, k, i, f, a, cell, h1, h2, h3, h4, h5, h6, h7, h8, h9⟩ := Cond.laysStatic_spec hl
  exact ⟨c, k, i, f, a, cell, h1, h2, h3, h4, h5, h6, h7, h8, h9, hA a (Array.getElem?_eq_some_iff.mp h5).1⟩
theorem vx_isRef {C n d : String} {v : Value} {A : Nat → Prop} {s : State} {args : Array Value} (h : va_Z C n d v A s s.heap) (hv : v.isRef = true) : (Cond.isRef (.static C n d)).before args s = true := by
  obtain ⟨cf, kf, fi, f, a, cell, h1, h2, h3, h4, h5, h6, h7, -⟩ := h
  have he : (Term.static C n d).eval args s none [] s = some v := by
    simp [Term.eval, State.fieldNamed?, h1, h2, h4, h5, h6, h7]
  simp only [Cond.before, Cond.holds, Cond.value, he]
  cases v <;> simp_all [Value.isRef]
theorem vx_isRefq {C n d : String} {A : Nat → Prop} {s : State} {args : Array Value} (h : va_Zq C n d A s s.heap) : (Cond.isRef (.static C n d)).before args s = true := by
  rcases h with h | ⟨t, h⟩
  · exact vx_isRef h rfl
  · exact vx_isRef h rfl
/-- the same frame, seen from here: as if the method were called anew in this heap -/
theorem vx_rebase {T : State} (X : Stand p l e R s m args below meth c T locs cells slots) {R' : Room} (hf : R'.frames ≤ R.frames) (hl : R'.locals ≤ R.locals) (hc : cells + R'.cells ≤ R.cells) (hs : slots + R'.slots ≤ R.slots) :
    Stand p l e R' ((T.setVm s.vm).setFrames (.invoking m args :: below)) m args below meth c T [] 0 0 := by
  have htop : (T.setVm s.vm).topJava?.isSome := X.here.top
  have hF : ((T.setVm s.vm).setFrames (.invoking m args :: below)).frames = .invoking m args :: below := State.frames_setFrames _ (State.cur_lt_of_top htop)
  obtain ⟨g₀, hg0⟩ := Option.isSome_iff_exists.mp htop
  obtain ⟨r, hr⟩ := State.topJava?_eq_some.mp hg0
  have hl9 : e.platform.stackLimits (T.setVm s.vm).me = e.platform.stackLimits s.me := X.limits
  have hb9 : (T.setVm s.vm).me.stackBytes = s.me.stackBytes := X.bytes
  refine ⟨X.admits, X.cas, X.clock, hF, ?_, X.hears, X.method, X.code, X.here, X.tail, X.warmed, ?_, ?_, ?_⟩
  · have h := X.room
    have hU : ((T.setVm s.vm).setFrames (.invoking m args :: below)).localsInUse = s.localsInUse := by
      rw [State.localsInUse_invoking hF (meth := meth) (c := c) X.method X.code, State.localsInUse_invoking X.frames X.method X.code]
    simp only [State.hasRoom, Bool.and_eq_true, decide_eq_true_eq] at h ⊢
    obtain ⟨⟨⟨⟨h1, h2, h3, h4, h5, h6⟩, h7⟩, h8⟩, h9⟩ := h
    rw [X.frames, List.length_cons] at h2 h3
    have q1 := X.heapSize
    have q2 := X.used
    simp only [hF, hU, List.length_cons, State.stackLimits_setFrames, State.stackBytes_setFrames, hl9, hb9]
    refine ⟨⟨⟨⟨by omega, by omega, by omega, by omega, by omega, h6⟩, ?_⟩, ?_⟩, X.book⟩
    · show T.heap.size + R'.cells ≤ e.platform.maxCells
      omega
    · show T.slotsUsed + R'.slots ≤ e.platform.maxSlots
      omega
  · rw [State.stackLimits_setFrames]; rfl
  · rw [State.stackBytes_setFrames]; rfl
  · refine ⟨?_, Nat.le_refl _, Nat.le_refl _, ?_, ?_, fun a c9 h9 => ⟨c9, h9, rfl, rfl, fun _ _ => rfl⟩⟩
    · obtain ⟨t, ht, -⟩ := State.frames_cons hr
      show T.setVm s.vm = { ((T.setVm s.vm).setFrames (.invoking m args :: below)).setFrames (T.setVm s.vm).frames with heap := T.heap, slotsUsed := T.slotsUsed }
      rw [State.setFrames_setFrames, State.setFrames_self ht]
      rfl
    · show T.slotsUsed = T.slotsUsed + ((T.heap.toList.drop T.heap.size).map (·.slots.size)).sum
      rw [List.drop_eq_nil_of_le (Nat.le_of_eq Array.length_toList)]
      rfl
    · show ((T.heap.toList.drop T.heap.size).map (·.slots.size)).sum ≤ 0
      rw [List.drop_eq_nil_of_le (Nat.le_of_eq Array.length_toList)]
      exact Nat.le_refl _
/-- 'throw new E()': new; dup; invokespecial; athrow -/
theorem vx_throw0 {cc : ByteArray} {pc : Nat} (hexec : p.tables.exec = Jvm.exec) (hb : c.code = cc) (hl : l.stackTraces = false) {own cls : String} {names : List String} {ik ic mc ms : Nat} {A : Nat → Prop}
    (hown : s.vm.findClass own = some m.cls) (hcls : Bundle.fit cls = true) (hnames : ∀ n ∈ names, Bundle.fit n = true)
    (hk : (Cond.classLink own ik cls).before args s = true) (hini : (Cond.initialized cls).before args s = true) (hat : ∀ w ∈ vx_at0 own ic cls names, w.before args s = true)
    (hgood : ∀ w ∈ Cond.classLink own ik cls :: Cond.initialized cls :: vx_at0 own ic cls names, vx_ot w = true)
    (hU : vx_Zq Bundle.tN "UNASSIGNED_STACK" Bundle.steD A s s.heap) (hN : vx_Zq Bundle.tN "SUPPRESSED_SENTINEL" Bundle.listD A s s.heap) (hS : va_S A s.heap H locs) (hsize : ls.size = c.maxLocals)
    (d0 : decode cc pc = .ok (.new ik, 3)) (d3 : decode cc (pc + 3) = .ok (.dup, 1)) (d4 : decode cc (pc + 4) = .ok (.invokespecial ic, 3)) (d7 : decode cc (pc + 7) = .ok (.athrow, 1))
    (hout : ∀ x ∈ c.exceptionTable.toList, covers x (pc + 7) = false)
    (hRframes : names.length + 3 < R.frames) (hRlocals : (rest.map fun v => v.category).sum + (13 * (names.length + 1) + 42) ≤ R.locals) (hRcells : cells + 1 ≤ R.cells) (hRslots : slots + 6 ≤ R.slots) (hlocks : meth.locks = false)
    (hx : ∀ t : State, s.vm.Alike t.vm → H.size ≤ t.heap.size → (∀ q : Nat, q < H.size → t.heap[q]? = H[q]?) → XC cls s t)
    (hf : ∀ z ∈ locs, free z.base) (hc : cells + 1 ≤ mc) (hs : slots + 6 ≤ ms) :
    W p l e R s m args below meth c H locs cells slots (vx_MQ below Qc XC args s mc ms free) (F0 m pc ls rest) := by
  intro T hT X
  have htr : e.platform.stackTraces = false := (show e.platform.stackTraces = l.stackTraces by rw [X.admits.platform]).trans hl
  have Y := vx_rebase X (R' := { frames := R.frames, locals := R.locals, cells := 1, slots := 6 }) (Nat.le_refl _) (Nat.le_refl _) hRcells hRslots
  obtain ⟨s', hA⟩ : ∃ z, z = (T.setVm s.vm).setFrames (.invoking m args :: below) := ⟨_, rfl⟩
  rw [← hA] at Y
  have hvm : s'.vm = s.vm := by rw [hA]; rfl
  have hhp : s'.heap = H := by rw [hA]; exact hT
  have hW0 : s.WarmedH s'.vm := by rw [hvm]; exact State.WarmedH.refl s
  have hat' : ∀ w ∈ vx_at0 own ic cls names, w.before args s' = true := fun w hw => vx_ot_at hW0 hvm.symm (hgood w (List.mem_cons_of_mem _ (List.mem_cons_of_mem _ hw))) (hat w hw)
  have hk' : (Cond.classLink own ik cls).before args s' = true := vx_ot_at hW0 hvm.symm (hgood _ List.mem_cons_self) hk
  have hini' : (Cond.initialized cls).before args s' = true := vx_ot_at hW0 hvm.symm (hgood _ (List.mem_cons_of_mem _ List.mem_cons_self)) hini
  have hU' : vx_Zq Bundle.tN "UNASSIGNED_STACK" Bundle.steD A s' s'.heap := by rw [hhp]; exact vx_Zq.moved hW0.alike (hU.kept hS.2.1)
  have hN' : vx_Zq Bundle.tN "SUPPRESSED_SENTINEL" Bundle.listD A s' s'.heap := by rw [hhp]; exact vx_Zq.moved hW0.alike (hN.kept hS.2.1)
  have h : ∀ w ∈ Bundle.ownAtoms0 own ic cls names, w.before args s' = true := vx_own hat' (vx_isRefq hU'.1) (vx_isRefq hN'.1) hU'.2.word hN'.2.word
  have hown' : s'.vm.findClass own = some m.cls := by rw [hvm]; exact hown
  have hins : (Cond.instantiable cls 6).before args s' = true := h _ (by simp [Bundle.ownAtoms0])
  obtain ⟨vm₁, cX, kX, hfX, hkX, -, -, X₁, st1⟩ := Y.newCold hexec (own := own) (C := cls) (index := ik) (n := 6) hown' hk' hins hini'
    (g := F0 m pc ls rest) rfl (by rw [hb]; exact d0) (Nat.le_refl _) (Nat.le_refl _)
  generalize hT1 : (T.setVm vm₁).pushCell { cls := cX, slots := kX.instanceTypes.map defaultValue, vm := .none } = T1 at X₁ st1
  have hcat : (Value.ref T.heap.size).category = 1 := rfl
  have hcellA : T1.heap[T.heap.size]? = some (freshCell cX kX) := by rw [← hT1]; exact State.heap_pushCell_size _ _
  have d3' : decode c.code (pc + 3) = .ok (.dup, 1) := by rw [hb]; exact d3
  obtain ⟨U, hsteps, hrun, hend, hW, hsame, ce, hce, hO⟩ := X₁.ctorThrow0 hexec htr (own := own) (cls := cls) (names := names) (ic := ic) hown' hcls hnames h (fun x hx => nomatch hx) hfX hkX hcellA (by rw [hhp, hT]; exact Nat.le_refl _)
    (g := { method := m, pc := pc + 4, locals := ls, stack := .ref T.heap.size :: .ref T.heap.size :: rest, locked := none }) rfl hsize rfl rfl (rest := rest) rfl
    (by rw [hb]; exact d4) (by rw [hb]; exact d7) hout hRframes (by simp only [List.map_cons, List.sum_cons, hcat]; omega) hlocks
  obtain ⟨f1, f2⟩ := vx_frame hsame
  rw [hhp] at f1 f2
  have hWs : s.WarmedH U.vm := State.WarmedH.trans hW0 hW
  have hcl : s.vm.findClass cls = some ce.cls := by
    have h9 := hO.cls
    rw [hvm] at h9
    exact h9
  have hall : s.sameButNew ({ U with vm := s.vm } : State) locs mc ms := by
    subst hA
    obtain ⟨e1, e2⟩ := hsame
    rw [State.setFrames_setFrames] at e1
    have h2 : (T.setVm s.vm).sameButNew ({ U with vm := s.vm } : State) [] (0 + 1) (0 + 6) := ⟨e1, e2⟩
    have h3 := X.same.trans h2
    rw [List.append_nil] at h3
    exact h3.mono hc hs
  refine ⟨U, ?_, .threw T.heap.size, hrun, hend, Or.inr ⟨T.heap.size, rfl, cls, ce, locs, hx U hWs.alike f1 (fun q hq => f2 q hq (fun z hz => nomatch hz)), hce, hO.vm, hcl, hWs, hall, hf⟩⟩
  refine st1 _ ?_
  show Steps p.tables e below (T1.setTop { method := m, pc := pc + 3, locals := ls, stack := .ref T.heap.size :: rest, locked := none }) _
  jvm_step X₁.here [X₁.here.top, hexec, d3', Value.category]
  exact hsteps
/-- 'throw new E("text")': new; dup; ldc; invokespecial; athrow -/
theorem vx_throwS {cc : ByteArray} {pc : Nat} (hexec : p.tables.exec = Jvm.exec) (hb : c.code = cc) (hl : l.stackTraces = false) {own cls text : String} {names : List String} {ik is ic mc ms sa : Nat} {A : Nat → Prop}
    (hown : s.vm.findClass own = some m.cls) (hcls : Bundle.fit cls = true) (hnames : ∀ n ∈ names, Bundle.fit n = true)
    (hk : (Cond.classLink own ik cls).before args s = true) (hini : (Cond.initialized cls).before args s = true) (hstr : vk_R own is text sa s) (hat : ∀ w ∈ vx_atS own ic cls names, w.before args s = true)
    (hgood : ∀ w ∈ Cond.classLink own ik cls :: Cond.initialized cls :: vx_atS own ic cls names, vx_ot w = true)
    (hU : vx_Zq Bundle.tN "UNASSIGNED_STACK" Bundle.steD A s s.heap) (hN : vx_Zq Bundle.tN "SUPPRESSED_SENTINEL" Bundle.listD A s s.heap) (hS : va_S A s.heap H locs) (hsize : ls.size = c.maxLocals)
    (d0 : decode cc pc = .ok (.new ik, 3)) (d3 : decode cc (pc + 3) = .ok (.dup, 1)) (d4 : decode cc (pc + 4) = .ok (.ldc is, 2)) (d6 : decode cc (pc + 6) = .ok (.invokespecial ic, 3)) (d9 : decode cc (pc + 9) = .ok (.athrow, 1))
    (hout : ∀ x ∈ c.exceptionTable.toList, covers x (pc + 9) = false)
    (hRframes : names.length + 3 < R.frames) (hRlocals : (rest.map fun v => v.category).sum + (13 * (names.length + 1) + 43) ≤ R.locals) (hRcells : cells + 1 ≤ R.cells) (hRslots : slots + 6 ≤ R.slots) (hlocks : meth.locks = false)
    (hx : ∀ t : State, s.vm.Alike t.vm → H.size ≤ t.heap.size → (∀ q : Nat, q < H.size → t.heap[q]? = H[q]?) → XC cls s t)
    (hf : ∀ z ∈ locs, free z.base) (hc : cells + 1 ≤ mc) (hs : slots + 6 ≤ ms) :
    W p l e R s m args below meth c H locs cells slots (vx_MQ below Qc XC args s mc ms free) (F0 m pc ls rest) := by
  intro T hT X
  have htr : e.platform.stackTraces = false := (show e.platform.stackTraces = l.stackTraces by rw [X.admits.platform]).trans hl
  have Y := vx_rebase X (R' := { frames := R.frames, locals := R.locals, cells := 1, slots := 6 }) (Nat.le_refl _) (Nat.le_refl _) hRcells hRslots
  obtain ⟨s', hA⟩ : ∃ z, z = (T.setVm s.vm).setFrames (.invoking m args :: below) := ⟨_, rfl⟩
  rw [← hA] at Y
  have hvm : s'.vm = s.vm := by rw [hA]; rfl
  have hhp : s'.heap = H := by rw [hA]; exact hT
  have hW0 : s.WarmedH s'.vm := by rw [hvm]; exact State.WarmedH.refl s
  have hat' : ∀ w ∈ vx_atS own ic cls names, w.before args s' = true := fun w hw => vx_ot_at hW0 hvm.symm (hgood w (List.mem_cons_of_mem _ (List.mem_cons_of_mem _ hw))) (hat w hw)
  have hk' : (Cond.classLink own ik cls).before args s' = true := vx_ot_at hW0 hvm.symm (hgood _ List.mem_cons_self) hk
  have hini' : (Cond.initialized cls).before args s' = true := vx_ot_at hW0 hvm.symm (hgood _ (List.mem_cons_of_mem _ List.mem_cons_self)) hini
  have hU' : vx_Zq Bundle.tN "UNASSIGNED_STACK" Bundle.steD A s' s'.heap := by rw [hhp]; exact vx_Zq.moved hW0.alike (hU.kept hS.2.1)
  have hN' : vx_Zq Bundle.tN "SUPPRESSED_SENTINEL" Bundle.listD A s' s'.heap := by rw [hhp]; exact vx_Zq.moved hW0.alike (hN.kept hS.2.1)
  have h : ∀ w ∈ Bundle.ownAtoms own ic cls names, w.before args s' = true := vx_own hat' (vx_isRefq hU'.1) (vx_isRefq hN'.1) hU'.2.word hN'.2.word
  have hown' : s'.vm.findClass own = some m.cls := by rw [hvm]; exact hown
  have hins : (Cond.instantiable cls 6).before args s' = true := h _ (by simp [Bundle.ownAtoms])
  obtain ⟨vm₁, cX, kX, hfX, hkX, -, -, X₁, st1⟩ := Y.newCold hexec (own := own) (C := cls) (index := ik) (n := 6) hown' hk' hins hini'
    (g := F0 m pc ls rest) rfl (by rw [hb]; exact d0) (Nat.le_refl _) (Nat.le_refl _)
  generalize hT1 : (T.setVm vm₁).pushCell { cls := cX, slots := kX.instanceTypes.map defaultValue, vm := .none } = T1 at X₁ st1
  have hcat : (Value.ref T.heap.size).category = 1 := rfl
  have hcellA : T1.heap[T.heap.size]? = some (freshCell cX kX) := by rw [← hT1]; exact State.heap_pushCell_size _ _
  have d3' : decode c.code (pc + 3) = .ok (.dup, 1) := by rw [hb]; exact d3
  have d4' : decode c.code (pc + 4) = .ok (.ldc is, 2) := by rw [hb]; exact d4
  have hstr' : vk_R own is text sa s' := vk_R.warm hW0 hstr
  obtain ⟨U, hsteps, hrun, hend, hW, hsame, ce, hce, hO⟩ := X₁.ctorThrowS hexec htr (own := own) (cls := cls) (names := names) (ic := ic) hown' hcls hnames h (fun x hx => nomatch hx) hfX hkX hcellA (by rw [hhp, hT]; exact Nat.le_refl _) (msg := .ref sa) rfl
    (g := { method := m, pc := pc + 6, locals := ls, stack := .ref sa :: .ref T.heap.size :: .ref T.heap.size :: rest, locked := none }) rfl hsize rfl rfl (rest := rest) rfl
    (by rw [hb]; exact d6) (by rw [hb]; exact d9) hout hRframes (by simp only [List.map_cons, List.sum_cons, hcat]; omega) hlocks
  obtain ⟨f1, f2⟩ := vx_frame hsame
  rw [hhp] at f1 f2
  have hWs : s.WarmedH U.vm := State.WarmedH.trans hW0 hW
  have hcl : s.vm.findClass cls = some ce.cls := by
    have h9 := hO.cls
    rw [hvm] at h9
    exact h9
  have hall : s.sameButNew ({ U with vm := s.vm } : State) locs mc ms := by
    subst hA
    obtain ⟨e1, e2⟩ := hsame
    rw [State.setFrames_setFrames] at e1
    have h2 : (T.setVm s.vm).sameButNew ({ U with vm := s.vm } : State) [] (0 + 1) (0 + 6) := ⟨e1, e2⟩
    have h3 := X.same.trans h2
    rw [List.append_nil] at h3
    exact h3.mono hc hs
  refine ⟨U, ?_, .threw T.heap.size, hrun, hend, Or.inr ⟨T.heap.size, rfl, cls, ce, locs, hx U hWs.alike f1 (fun q hq => f2 q hq (fun z hz => nomatch hz)), hce, hO.vm, hcl, hWs, hall, hf⟩⟩
  refine st1 _ ?_
  show Steps p.tables e below (T1.setTop { method := m, pc := pc + 3, locals := ls, stack := .ref T.heap.size :: rest, locked := none }) _
  jvm_step X₁.here [X₁.here.top, hexec, d3', Value.category]
  exact X₁.ldcString hexec (own := own) (text := text) (index := is) (a := sa) hown' hstr'.1 hstr'.2
    (g := { method := m, pc := pc + 4, locals := ls, stack := .ref T.heap.size :: .ref T.heap.size :: rest, locked := none }) rfl d4' _ hsteps
/-- 'throw new E("text")', the text by a wide index -/
theorem vx_throwSW {cc : ByteArray} {pc : Nat} (hexec : p.tables.exec = Jvm.exec) (hb : c.code = cc) (hl : l.stackTraces = false) {own cls text : String} {names : List String} {ik is ic mc ms sa : Nat} {A : Nat → Prop}
    (hown : s.vm.findClass own = some m.cls) (hcls : Bundle.fit cls = true) (hnames : ∀ n ∈ names, Bundle.fit n = true)
    (hk : (Cond.classLink own ik cls).before args s = true) (hini : (Cond.initialized cls).before args s = true) (hstr : vk_R own is text sa s) (hat : ∀ w ∈ vx_atS own ic cls names, w.before args s = true)
    (hgood : ∀ w ∈ Cond.classLink own ik cls :: Cond.initialized cls :: vx_atS own ic cls names, vx_ot w = true)
    (hU : vx_Zq Bundle.tN "UNASSIGNED_STACK" Bundle.steD A s s.heap) (hN : vx_Zq Bundle.tN "SUPPRESSED_SENTINEL" Bundle.listD A s s.heap) (hS : va_S A s.heap H locs) (hsize : ls.size = c.maxLocals)
    (d0 : decode cc pc = .ok (.new ik, 3)) (d3 : decode cc (pc + 3) = .ok (.dup, 1)) (d4 : decode cc (pc + 4) = .ok (.ldc_w is, 3)) (d7 : decode cc (pc + 7) = .ok (.invokespecial ic, 3)) (d10 : decode cc (pc + 10) = .ok (.athrow, 1))
    (hout : ∀ x ∈ c.exceptionTable.toList, covers x (pc + 10) = false)
    (hRframes : names.length + 3 < R.frames) (hRlocals : (rest.map fun v => v.category).sum + (13 * (names.length + 1) + 43) ≤ R.locals) (hRcells : cells + 1 ≤ R.cells) (hRslots : slots + 6 ≤ R.slots) (hlocks : meth.locks = false)
    (hx : ∀ t : State, s.vm.Alike t.vm → H.size ≤ t.heap.size → (∀ q : Nat, q < H.size → t.heap[q]? = H[q]?) → XC cls s t)
    (hf : ∀ z ∈ locs, free z.base) (hc : cells + 1 ≤ mc) (hs : slots + 6 ≤ ms) :
    W p l e R s m args below meth c H locs cells slots (vx_MQ below Qc XC args s mc ms free) (F0 m pc ls rest) := by
  intro T hT X
  have htr : e.platform.stackTraces = false := (show e.platform.stackTraces = l.stackTraces by rw [X.admits.platform]).trans hl
  have Y := vx_rebase X (R' := { frames := R.frames, locals := R.locals, cells := 1, slots := 6 }) (Nat.le_refl _) (Nat.le_refl _) hRcells hRslots
  obtain ⟨s', hA⟩ : ∃ z, z = (T.setVm s.vm).setFrames (.invoking m args :: below) := ⟨_, rfl⟩
  rw [← hA] at Y
  have hvm : s'.vm = s.vm := by rw [hA]; rfl
  have hhp : s'.heap = H := by rw [hA]; exact hT
  have hW0 : s.WarmedH s'.vm := by rw [hvm]; exact State.WarmedH.refl s
  have hat' : ∀ w ∈ vx_atS own ic cls names, w.before args s' = true := fun w hw => vx_ot_at hW0 hvm.symm (hgood w (List.mem_cons_of_mem _ (List.mem_cons_of_mem _ hw))) (hat w hw)
  have hk' : (Cond.classLink own ik cls).before args s' = true := vx_ot_at hW0 hvm.symm (hgood _ List.mem_cons_self) hk
  have hini' : (Cond.initialized cls).before args s' = true := vx_ot_at hW0 hvm.symm (hgood _ (List.mem_cons_of_mem _ List.mem_cons_self)) hini
  have hU' : vx_Zq Bundle.tN "UNASSIGNED_STACK" Bundle.steD A s' s'.heap := by rw [hhp]; exact vx_Zq.moved hW0.alike (hU.kept hS.2.1)
  have hN' : vx_Zq Bundle.tN "SUPPRESSED_SENTINEL" Bundle.listD A s' s'.heap := by rw [hhp]; exact vx_Zq.moved hW0.alike (hN.kept hS.2.1)
  have h : ∀ w ∈ Bundle.ownAtoms own ic cls names, w.before args s' = true := vx_own hat' (vx_isRefq hU'.1) (vx_isRefq hN'.1) hU'.2.word hN'.2.word
  have hown' : s'.vm.findClass own = some m.cls := by rw [hvm]; exact hown
  have hins : (Cond.instantiable cls 6).before args s' = true := h _ (by simp [Bundle.ownAtoms])
  obtain ⟨vm₁, cX, kX, hfX, hkX, -, -, X₁, st1⟩ := Y.newCold hexec (own := own) (C := cls) (index := ik) (n := 6) hown' hk' hins hini'
    (g := F0 m pc ls rest) rfl (by rw [hb]; exact d0) (Nat.le_refl _) (Nat.le_refl _)
  generalize hT1 : (T.setVm vm₁).pushCell { cls := cX, slots := kX.instanceTypes.map defaultValue, vm := .none } = T1 at X₁ st1
  have hcat : (Value.ref T.heap.size).category = 1 := rfl
  have hcellA : T1.heap[T.heap.size]? = some (freshCell cX kX) := by rw [← hT1]; exact State.heap_pushCell_size _ _
  have d3' : decode c.code (pc + 3) = .ok (.dup, 1) := by rw [hb]; exact d3
  have d4' : decode c.code (pc + 4) = .ok (.ldc_w is, 3) := by rw [hb]; exact d4
  have hstr' : vk_R own is text sa s' := vk_R.warm hW0 hstr
  obtain ⟨U, hsteps, hrun, hend, hW, hsame, ce, hce, hO⟩ := X₁.ctorThrowS hexec htr (own := own) (cls := cls) (names := names) (ic := ic) hown' hcls hnames h (fun x hx => nomatch hx) hfX hkX hcellA (by rw [hhp, hT]; exact Nat.le_refl _) (msg := .ref sa) rfl
    (g := { method := m, pc := pc + 7, locals := ls, stack := .ref sa :: .ref T.heap.size :: .ref T.heap.size :: rest, locked := none }) rfl hsize rfl rfl (rest := rest) rfl
    (by rw [hb]; exact d7) (by rw [hb]; exact d10) hout hRframes (by simp only [List.map_cons, List.sum_cons, hcat]; omega) hlocks
  obtain ⟨f1, f2⟩ := vx_frame hsame
  rw [hhp] at f1 f2
  have hWs : s.WarmedH U.vm := State.WarmedH.trans hW0 hW
  have hcl : s.vm.findClass cls = some ce.cls := by
    have h9 := hO.cls
    rw [hvm] at h9
    exact h9
  have hall : s.sameButNew ({ U with vm := s.vm } : State) locs mc ms := by
    subst hA
    obtain ⟨e1, e2⟩ := hsame
    rw [State.setFrames_setFrames] at e1
    have h2 : (T.setVm s.vm).sameButNew ({ U with vm := s.vm } : State) [] (0 + 1) (0 + 6) := ⟨e1, e2⟩
    have h3 := X.same.trans h2
    rw [List.append_nil] at h3
    exact h3.mono hc hs
  refine ⟨U, ?_, .threw T.heap.size, hrun, hend, Or.inr ⟨T.heap.size, rfl, cls, ce, locs, hx U hWs.alike f1 (fun q hq => f2 q hq (fun z hz => nomatch hz)), hce, hO.vm, hcl, hWs, hall, hf⟩⟩
  refine st1 _ ?_
  show Steps p.tables e below (T1.setTop { method := m, pc := pc + 3, locals := ls, stack := .ref T.heap.size :: rest, locked := none }) _
  jvm_step X₁.here [X₁.here.top, hexec, d3', Value.category]
  exact X₁.ldcStringW hexec (own := own) (text := text) (index := is) (a := sa) hown' hstr'.1 hstr'.2
    (g := { method := m, pc := pc + 4, locals := ls, stack := .ref T.heap.size :: .ref T.heap.size :: rest, locked := none }) rfl d4' _ hsteps
end Ends
section Bodies
variable {l : Launch}
theorem vx_ofW {y : MethodName} {ws ws' : List Cond} {rm : Room} {Pc : Array Value → State → Prop} {Qc : Array Value → State → Outcome → State → Prop} {XC : String → State → State → Prop} {mc ms : Nat} {free : Addr → Prop} {cc : ByteArray} {maxL : Nat} {ret : Option FieldType}
    (hy : plainName y.cls = true) (hw : ws = Cond.code y cc maxL ret :: ws')
    (body : ∀ p e s m args below meth c s₁, BodyLoose p l y (headSpec ws rm) cc maxL ret e s m args below meth c s₁ → c.maxLocals = maxL → (∀ x ∈ c.exceptionTable.toList, False) → Pc args s →
      W p l e (headSpec ws rm).room s m args below meth c s.heap [] 0 0 (vx_MQ below Qc XC args s mc ms free) (entryFrame m args maxL)) : vx_Met l y ws rm Pc Qc XC mc ms free := by
  refine MetFree.of_bodyS (code := cc) (maxLocals := maxL) (ret := ret) hy ?_ ?_
  · intro args s m h hn
    obtain ⟨meth, c, h1, h2, h3, h4, h5, h6, -, -⟩ := Cond.code_spec hn (atoms_spec (ws := ws) h _ (by rw [hw]; exact List.mem_cons_self))
    exact ⟨meth, c, h1, h2, h3, h4, h5, h6⟩
  · intro p e s m args below meth c s₁ B hml hP _
    have hh0 : s₁.heap = s.heap := by rw [B.state]; rfl
    have ht : ∀ x ∈ c.exceptionTable.toList, False := by
      obtain ⟨meth9, c9, h1, h2, -, -, -, -, h7, -⟩ := Cond.code_spec B.named (atoms_spec (ws := ws) B.pre _ (by rw [hw]; exact List.mem_cons_self))
      cases Option.some.inj (h1.symm.trans B.method)
      cases Option.some.inj (h2.symm.trans (Stand.of_body B).code)
      intro x hx
      rw [Array.isEmpty_iff.mp h7] at hx
      cases hx
    obtain ⟨t, a1, o, b1, b2, b3⟩ := body p e s m args below meth c s₁ B hml ht hP s₁ hh0 (Stand.of_body B)
    exact ⟨t, o, a1, b1, b2, b3⟩
/-- the table of a body with handlers -/
theorem vx_table {p : Program} {x y : MethodName} {S : Spec} {cc bytes : ByteArray} {maxL maxL' : Nat} {ret ret' : Option FieldType} {e : Env} {s s₁ : State} {m : MethodId} {args : Array Value} {below : List Frame} {meth : Method} {c : Code} {hh : List (Nat × Nat × Nat × Nat)}
    (B : BodyLoose p l y S cc maxL ret e s m args below meth c s₁) (h : (Cond.codeWith y bytes maxL' ret' hh).before args s = true) : c.exceptionTable.toList = tableOf hh := by
  obtain ⟨m9, meth9, c9, hn9, h1, h2, -, -, h6, -⟩ := Cond.codeWith_spec h
  cases Option.some.inj (hn9.symm.trans B.named)
  cases Option.some.inj (h1.symm.trans B.method)
  cases Option.some.inj (h2.symm.trans (Stand.of_body B).code)
  rw [← h6, table_eq]
end Bodies
end VXA
/-! ===== END ===== -/
/-! ===== BEGIN a static call of a method with an exception table ===== -/
section VXS
variable {p : Program} {l : Launch} {e : Env} {R : Room} {s : State} {m : MethodId} {args : Array Value} {below : List Frame} {meth : Method} {c : Code} {T : State} {H : Heap} {locs : List Loc} {cells slots : Nat}
abbrev vx_CSW (R : Room) (s : State) (args : Array Value) (own : String) (index : Nat) (y : MethodName) (bytes : ByteArray) (maxL : Nat) (ret : Option FieldType) (hh : List (Nat × Nat × Nat × Nat)) (ws : List Cond) (rm : Room) (mc ms n : Nat) : Prop :=
  (rm.cells = mc ∧ rm.slots = ms ∧ rm.frames + 1 ≤ R.frames ∧ 8 + (maxL + 11) + rm.locals ≤ R.locals ∧ (∀ w ∈ ws, ∀ (a' : Array Value) (U : State), s.WarmedH U.vm → w.before a' U = true) ∧ Cond.codeWith y bytes maxL ret hh ∈ ws) ∧
  (Cond.codeWith y bytes maxL ret hh).before args s = true ∧ (Cond.initialized y.cls).before args s = true ∧ (y.cls ≠ "java/lang/invoke/MethodHandle" ∧ y.cls ≠ "java/lang/invoke/VarHandle") ∧
  (∀ sig, parseMethodDescriptor y.desc = some sig → n = sig.parameters.length) ∧ (Cond.methodLink own index y).before args s = true ∧ (Cond.static y).before args s = true
theorem vx_cwSW {own : String} {index maxL mc ms : Nat} {y : MethodName} {bytes : ByteArray} {ret : Option FieldType} {hh : List (Nat × Nat × Nat × Nat)} {Ts ws ws' : List Cond} {rm : Room} (n : Nat) (ht : ∀ w ∈ Ts, w.before args s = true) (hT : GoodIn Ts (va_wsS own index y ws)) (hw : ws = Cond.codeWith y bytes maxL ret hh :: ws') (hrc : rm.cells = mc) (hrs : rm.slots = ms)
    (hd : y.cls ≠ "java/lang/invoke/MethodHandle" ∧ y.cls ≠ "java/lang/invoke/VarHandle" ∧ (parseMethodDescriptor y.desc).map (fun d => d.parameters.length) = some n) (hR : rm.frames + 1 ≤ R.frames ∧ 8 + (maxL + 11) + rm.locals ≤ R.locals) :
    vx_CSW R s args own index y bytes maxL ret hh ws rm mc ms n := by
  have ok : ∀ w ∈ va_wsS own index y ws, w.before args s = true := fun w h => ht w (hT w h).1
  have hG : GoodIn Ts ws := fun w h => hT w (by unfold va_wsS; exact List.mem_append_right _ h)
  have hc : Cond.codeWith y bytes maxL ret hh ∈ ws := by rw [hw]; exact List.mem_cons_self
  refine ⟨⟨hrc, hrs, hR.1, hR.2, pay_in ht hG, hc⟩, ht _ (hG _ hc).1, ok _ (by simp [va_wsS]), ⟨hd.1, hd.2.1⟩, fun sig h => ?_, ok _ (by simp [va_wsS]), ok _ (by simp [va_wsS])⟩
  have h2 := hd.2.2
  rw [h] at h2
  exact (Option.some.inj h2).symm
theorem vx_callSW (X : Stand p l e R s m args below meth c T locs cells slots) (hexec : p.tables.exec = Jvm.exec) {own : String} {index : Nat} {y : MethodName} {bytes : ByteArray} {maxL : Nat} {ret : Option FieldType} {hh : List (Nat × Nat × Nat × Nat)}
    (hown : s.vm.findClass own = some m.cls) (hlink : (Cond.methodLink own index y).before args s = true) (hstat : (Cond.static y).before args s = true) (hinit : (Cond.initialized y.cls).before args s = true)
    (hcode : (Cond.codeWith y bytes maxL ret hh).before args s = true) (hy : y.cls ≠ "java/lang/invoke/MethodHandle" ∧ y.cls ≠ "java/lang/invoke/VarHandle")
    {W9 : Nat} {Pre : Pt → Array Value → Prop} {Post : Pt → Array Value → Option Value → Pt → Prop} (hK : Back l R p e below s args y 3 W9 Pre Post)
    {g : JFrame} (hg : g.method = m) (hsize : g.locals.size = c.maxLocals) {argsL rest : List Value} (hlen : ∀ sig, parseMethodDescriptor y.desc = some sig → argsL.length = sig.parameters.length)
    (hstack : g.stack = argsL.reverse ++ rest) (hW : 2 * g.monitorRoom + (rest.map fun v => v.category).sum ≤ W9) (hdg : decode c.code g.pc = .ok (.invokestatic index, 3))
    (hpre : ∀ vm₁, s.WarmedH vm₁ → Pre ⟨T.setVm vm₁, locs, cells, slots⟩ argsL.toArray) :
    ∃ (v : Option Value) (vm₁ : Vm) (B : Pt), s.WarmedH vm₁ ∧ Stand p l e R s m args below meth c B.U B.locs B.cells B.slots ∧ Post ⟨T.setVm vm₁, locs, cells, slots⟩ argsL.toArray v B ∧
      ∀ target, Steps p.tables e below (B.U.setTop { g with pc := g.pc + 3, stack := v.toList ++ rest }) target → Steps p.tables e below (T.setTop g) target := by
  obtain ⟨mk, methM, cM, hnamed, hmethM, -, -, -, -, -, -, hsigM⟩ := Cond.codeWith_spec hcode
  have hstatic : methM.isStatic = true := Cond.static_spec hnamed hmethM hstat
  obtain ⟨kP, hkP, -⟩ := className_of_methodNamed hnamed
  have hinitP : kP.init = .initialized := Cond.initialized_spec (findClass_of_methodNamed hnamed) hkP hinit
  obtain ⟨vm₁, X₁, hstep₁⟩ := X.invokestatic hexec hown hlink hnamed hmethM hstatic hkP hinitP hy (g := g) hg (argsL := argsL) (rest := rest) (hlen _ hsigM) hstack hdg
  obtain ⟨v, B, X', hpost, hsteps⟩ := hK m meth c ⟨T.setVm vm₁, locs, cells, slots⟩ { g with stack := rest } (.invokestatic index) mk argsL.toArray X₁ hg hsize hdg hW (X₁.named hnamed) (hpre vm₁ X₁.warmed)
  exact ⟨v, vm₁, B, X₁.warmed, X', hpost, fun target h => hstep₁ _ fun acts => by rw [doInvoke_state]; exact hsteps.trans h⟩
theorem vx_runSW {y : MethodName} {bytes cc : ByteArray} {maxL nL mc ms n index : Nat} {ret : Option FieldType} {hh : List (Nat × Nat × Nat × Nat)} {ws : List Cond} {rm : Room} {Pc : Array Value → State → Prop} {Qc : Array Value → State → Outcome → State → Prop} {free : Addr → Prop} {Ts : List Cond} {own : String} {As rest : List Value} {g : JFrame}
    (S : CallFix p m c cc nL s args Ts own) (hM : Met l y ws rm Pc Qc mc ms free) (cw : vx_CSW R s args own index y bytes maxL ret hh ws rm mc ms n) (hp : PreS s H Pc As)
    (hg : g.method = m) (hn : As.length = n) (hsize : g.locals.size = nL) (hstack : g.stack = As.reverse ++ rest) (hW : 2 * g.monitorRoom + (rest.map fun v => v.category).sum ≤ 8) (hdg : decode cc g.pc = .ok (.invokestatic index, 3)) (hf : cells + mc ≤ R.cells ∧ slots + ms ≤ R.slots) :
    va_Run p l e R s m args below meth c H locs cells slots mc ms g rest (Qc As.toArray) (free) := by
  obtain ⟨⟨hrc, hrs, hfr, hlo, hws, hcw⟩, hcode, hini, hy, hlen, hl, hstt⟩ := cw
  have hK : Back l R p e below s args y 3 8 (PreOf R mc ms Pc) (PostOf Qc mc ms free) := va_backW (hh := hh) (bytes := bytes) (maxL := maxL) (ret := ret) hM hp.1 hrc hrs hfr hlo hws hcw (fun a' U hW => word_at hW (Or.inl (by first | rfl | simp [Cond.onTables, Cond.keeps, Cond.steady])) hini)
  obtain ⟨hx, hb, hml, ho, -⟩ := S
  intro T hT X
  obtain ⟨v, vm₁, ⟨U', l2, c2, s2⟩, hW₁, X', ⟨g', mk, t, L, e1, e2, hq, h1, hL, h2, h3⟩, st⟩ := vx_callSW X hx (hh := hh) (bytes := bytes) (maxL := maxL) (ret := ret) ho hl hstt hini hcode hy hK hg (hsize.trans hml.symm) (argsL := As) (rest := rest) (fun sig h => hn.trans (hlen sig h)) hstack hW (by rw [hb]; exact hdg)
    (fun vm₁ hW₁ => ⟨hf.1, hf.2, hp.2 (T.setVm vm₁) hT hW₁⟩)
  dsimp only [Pt.U, Pt.locs, Pt.cells, Pt.slots] at X' e1 e2 h1 h2 h3 st
  subst h1; subst h2; subst h3
  exact ⟨v, (T.setVm vm₁).calling g' mk As.toArray, t, U', L, hT, X', hL, e1, e2, hq, st⟩
/-- not caught here, past rows that name other classes: it goes on to the caller -/
theorem vx_outP {p : Program} {l : Launch} {e : Env} {R : Room} {s : State} {m : MethodId} {args : Array Value} {below : List Frame} {meth : Method} {c : Code} {H : Heap} {locs : List Loc} {cells slots : Nat} {free : Addr → Prop} {ls : Array Slot} {rest : List Value} {Qc : Array Value → State → Outcome → State → Prop} {XC : String → State → State → Prop}
    {pc : Nat} {own E : String} {ce : Cell} {q : Addr} {mc ms : Nat} (hown : s.vm.findClass own = some m.cls) (hlocks : meth.locks = false)
    (hpass : ∀ z ∈ c.exceptionTable.toList, covers z pc = false ∨ (z.catchType ≠ 0 ∧ ∃ nm : String, (Cond.classLink own z.catchType nm).before args s = true ∧ va_Nc E nm s)) (hcell : H[q]? = some ce) (hv : ce.vm = .none) (hcl : s.vm.findClass E = some ce.cls)
    (hx : ∀ t : State, t.heap = H → s.vm.Alike t.vm → XC E s t) (hf : ∀ z ∈ locs, free z.base) (hc : cells ≤ mc) (hs : slots ≤ ms) :
    vx_W p l e R s m args below meth c H locs cells slots (vx_MQ below Qc XC args s mc ms free) (F0 m pc ls rest) q := by
  intro T hT X
  have hpl : e.platform.magicAccessors = ({} : Platform).magicAccessors := by rw [X.admits.platform]
  obtain ⟨vm', hW', X', st⟩ := X.outThrough hlocks q (g := F0 m pc ls rest) rfl rfl rfl (cell := ce) (by rw [hT]; exact hcell) (by rw [hv]; rfl)
    (by obtain ⟨k9, h9, -⟩ := Vm.findClass_spec hcl; exact ⟨k9, h9⟩) (fun z hz => by
      rcases hpass z hz with h | ⟨hz0, nm, hl1, hn1⟩
      · exact Or.inl h
      · obtain ⟨c6, hc6, hcl6⟩ := Cond.classLink_spec hown hl1 e.platform hpl
        obtain ⟨a8, b8, h1, h2, h3⟩ := hn1
        cases Option.some.inj (h1.symm.trans hcl)
        cases Option.some.inj (h2.symm.trans hc6)
        exact Or.inr ⟨hz0, _, hcl6, h3⟩)
  obtain ⟨g₀, hfr⟩ := X'.frames_eq
  have hcell9 : ((T.setVm vm').setFrames (.throwing q :: below)).heap[q]? = some ce := by
    show T.heap[q]? = some ce
    rw [hT]; exact hcell
  have hend : Ended ((T.setVm vm').setFrames (.throwing q :: below)) below (.threw q) := State.frames_setFrames _ (State.cur_lt_of_frames hfr)
  refine ⟨(T.setVm vm').setFrames (.throwing q :: below), ?_, .threw q, X'.here.running, hend, Or.inr ⟨q, rfl, E, ce, locs, hx _ hT (X'.ends _).1.alike, hcell9, hv, hcl, (X'.ends _).1, (X'.ends _).2.mono hc hs, hf⟩⟩
  rw [X.pushThrowing_eq]
  exact st
/-- a thing of a world lies in the heap -/
theorem vx_lt {D : va_G} {cl : List vw_C} {ws : va_W} {H1 : Heap} (h : va_P D cl ws H1) {k : Nat} {q : Nat × va_E} (hk : ws[k]? = some q) : q.1 < H1.size := (h k q hk).lt
end VXS
/-! ===== END ===== -/
/-! ===== BEGIN methods with a table of their own: called by a name, returning or throwing ===== -/
section VXH
/-! vx_backW, vx_callVX, vx_callSX, vx_callVW, vx_runVW, vx_runVX, vx_runSX, vx_ofWH follow the same proofs as their sisters above (Free/Laws.lean, Shelf42/LK1.lean); vx_outP calls Shelf42/NT130.lean (outThrough). -/
section
variable {l : Launch} {R : Room} {p : Program} {e : Env} {below : List Frame} {s : State} {sargs : Array Value} {y : MethodName} {len W9 : Nat}
theorem vx_backW {ws : List Cond} {rm : Room} {Pc : Array Value → State → Prop} {Qc : Array Value → State → Outcome → State → Prop} {XC : String → State → State → Prop} {mc ms : Nat} {free : Addr → Prop} {bytes : ByteArray} {maxL : Nat} {ret : Option FieldType} {hh : List (Nat × Nat × Nat × Nat)}
    (hM : vx_Met l y ws rm Pc Qc XC mc ms free) (hblind : FrameBlind Pc) (hrc : rm.cells = mc) (hrs : rm.slots = ms)
    (hframes : rm.frames + 1 ≤ R.frames) (hlocals : W9 + (maxL + 11) + rm.locals ≤ R.locals)
    (hws : ∀ w ∈ ws, ∀ a' U, s.WarmedH U.vm → w.before a' U = true) (hcode : Cond.codeWith y bytes maxL ret hh ∈ ws) (hinit : ∀ a' U, s.WarmedH U.vm → (Cond.initialized y.cls).before a' U = true) :
    vx_Back l R p e below s sargs y len W9 (PreOf R mc ms Pc) (PostOf Qc mc ms free) (vx_Post XC mc ms free) := by
  intro m meth c A g ig mk a X hg hsize hdg hW hn hp
  have h1 : (headSpec ws rm).pre.before a A.U = true := atoms_intro fun w hw => hws w hw _ _ X.warmed
  have h2 : (Cond.codeWith y bytes maxL ret hh).before a A.U = true := hws _ hcode _ _ X.warmed
  have h3 : (Cond.initialized y.cls).before a A.U = true := hinit _ _ X.warmed
  have h4 : A.cells + (headSpec ws rm).room.cells ≤ R.cells := by rw [show (headSpec ws rm).room.cells = mc from hrc]; exact hp.1
  have h5 : A.slots + (headSpec ws rm).room.slots ≤ R.slots := by rw [show (headSpec ws rm).room.slots = ms from hrs]; exact hp.2.1
  have hPc : Pc a (A.U.calling g mk a) := hblind _ _ _ _ hp.2.2
  obtain ⟨U, Ls, c0, s0⟩ := A
  dsimp only [Pt.U, Pt.locs, Pt.cells, Pt.slots] at h1 h2 h3 h4 h5 X hn hPc ⊢
  obtain ⟨m9, methY, cY, hn9, hmY, hcY, -, hlY, -⟩ := Cond.codeWith_spec h2
  cases Option.some.inj (hn9.symm.trans hn)
  obtain ⟨kY, hkY, -⟩ := className_of_methodNamed hn
  have hinitY : kY.init = .initialized := Cond.initialized_spec (findClass_of_methodNamed hn) hkY h3
  have h : At U g.method c below := by rw [hg]; exact X.here
  have hlocals9 : W9 + (maxL + 11) + (headSpec ws rm).room.locals ≤ R.locals := hlocals
  have happ : (headSpec ws rm).appliesLoose y e.platform (U.calling g mk a) = true :=
    Spec.appliesLoose_calling (g := g) h hdg hn hkY hinitY
      (X.room_calling (g := g) (R' := (headSpec ws rm).room) hsize hmY hcY hframes (by rw [hlY]; omega) h4 h5) h1
  obtain ⟨mid, hmid⟩ := h.above
  have hfr : (U.setTop g).frames = (.java g :: mid) ++ below := by rw [State.frames_setTop' g h.top, hmid]; rfl
  obtain ⟨o, s₂, hsteps, -, hend, hq⟩ := Steps.callFree hM p X.admits X.cas X.clock (acts := []) hfr happ hPc trivial
  have hq' : vx_Q Qc XC mc ms free a (U.calling g mk a) o s₂ := hq
  rw [State.frames_setTop' g h.top] at hend
  obtain ⟨g₀, hg0⟩ := Option.isSome_iff_exists.mp h.top
  obtain ⟨r, hr⟩ := State.topJava?_eq_some.mp hg0
  have hr' : (({ U with heap := s₂.heap, slotsUsed := s₂.slotsUsed } : State).setVm s₂.vm).frames = .java g₀ :: r := hr
  rcases hq' with ⟨hqc, L, hfe, hL⟩ | ⟨q, rfl, E, ce, L, hx, hce, hcv, hcl, hW₂, hsm, hL⟩
  · obtain ⟨⟨v, rfl⟩, hW₂, e2, q2, q3, q4, q5, q6⟩ := id hfe
    have e3 : s₂ = ({ (U.calling g mk a).setFrames s₂.frames with heap := s₂.heap, slotsUsed := s₂.slotsUsed } : State).setVm s₂.vm := by
      have : s₂ = ({ s₂ with vm := (U.calling g mk a).vm } : State).setVm s₂.vm := rfl
      rw [e2] at this
      exact this
    obtain ⟨c₂, i₂, len₂, hc₂, hd₂, hf₂⟩ := hend
    have hW' : U.WarmedH s₂.vm := hW₂
    have hcc : c₂ = c := by
      have h1 : s₂.code? g.method = U.code? g.method := by
        rw [State.code?_eq, State.code?_eq, hW'.alike.method?]
      exact Option.some.inj (hc₂.symm.trans (h1.trans h.code))
    subst hcc
    have hlen : len₂ = len := by rw [hdg] at hd₂; cases hd₂; rfl
    subst hlen
    have hs₂ : s₂ = (({ U with heap := s₂.heap, slotsUsed := s₂.slotsUsed } : State).setVm s₂.vm).setTop { g with pc := g.pc + len₂, stack := v.toList ++ g.stack } := by
      refine e3.trans ?_
      rw [hf₂, State.calling_eq h.top, State.setFrames_setFrames, State.setTop_of_frames _ hr', hr]
      rfl
    have hsame : U.sameButNew ({ U with heap := s₂.heap, slotsUsed := s₂.slotsUsed } : State) L mc ms := by
      refine ⟨?_, q2, q3, q4, q5, q6⟩
      obtain ⟨t, ht, -⟩ := State.frames_cons hr
      show ({ U with heap := s₂.heap, slotsUsed := s₂.slotsUsed } : State) = { U.setFrames U.frames with heap := s₂.heap, slotsUsed := s₂.slotsUsed }
      rw [State.setFrames_self ht]
    subst hg
    refine Or.inl ⟨v, ⟨(({ U with heap := s₂.heap, slotsUsed := s₂.slotsUsed } : State).setVm s₂.vm), Ls ++ L, c0 + mc, s0 + ms⟩,
      ⟨X.admits, X.cas, X.clock, X.frames, X.room, X.hears, X.method, X.code, (X.here.setHeapUsed s₂.heap s₂.slotsUsed).setVm hW'.alike, X.tail, State.WarmedH.trans X.warmed hW', X.limits, X.bytes, X.same.trans (hsame.setVm s.vm)⟩,
      ⟨g, mk, s₂, L, rfl, rfl, hqc, rfl, hL, rfl, rfl⟩, ?_⟩
    show Steps p.tables e below _ ((({ U with heap := s₂.heap, slotsUsed := s₂.slotsUsed } : State).setVm s₂.vm).setTop { g with pc := g.pc + len₂, stack := v.toList ++ g.stack })
    rw [← hs₂]
    exact hsteps
  · obtain ⟨e2, q2, q3, q4, q5, q6⟩ := id hsm
    have e3 : s₂ = ({ (U.calling g mk a).setFrames s₂.frames with heap := s₂.heap, slotsUsed := s₂.slotsUsed } : State).setVm s₂.vm := by
      have : s₂ = ({ s₂ with vm := (U.calling g mk a).vm } : State).setVm s₂.vm := rfl
      rw [e2] at this
      exact this
    have hf₂ : s₂.frames = .throwing q :: .java g :: U.frames.tail := hend
    have hW' : U.WarmedH s₂.vm := hW₂
    have hs₂ : s₂ = ((({ U with heap := s₂.heap, slotsUsed := s₂.slotsUsed } : State).setVm s₂.vm).setTop g).pushFrame (.throwing q) := by
      refine e3.trans ?_
      rw [hf₂, State.calling_eq h.top, State.setFrames_setFrames, State.pushFrame, State.frames_setTop _ hr', State.setTop_of_frames _ hr', State.setFrames_setFrames, hr]
      rfl
    have hsame : U.sameButNew ({ U with heap := s₂.heap, slotsUsed := s₂.slotsUsed } : State) L mc ms := by
      refine ⟨?_, q2, q3, q4, q5, q6⟩
      obtain ⟨t, ht, -⟩ := State.frames_cons hr
      show ({ U with heap := s₂.heap, slotsUsed := s₂.slotsUsed } : State) = { U.setFrames U.frames with heap := s₂.heap, slotsUsed := s₂.slotsUsed }
      rw [State.setFrames_self ht]
    subst hg
    refine Or.inr ⟨q, ⟨(({ U with heap := s₂.heap, slotsUsed := s₂.slotsUsed } : State).setVm s₂.vm), Ls ++ L, c0 + mc, s0 + ms⟩,
      ⟨X.admits, X.cas, X.clock, X.frames, X.room, X.hears, X.method, X.code, (X.here.setHeapUsed s₂.heap s₂.slotsUsed).setVm hW'.alike, X.tail, State.WarmedH.trans X.warmed hW', X.limits, X.bytes, X.same.trans (hsame.setVm s.vm)⟩,
      ⟨g, mk, s₂, L, E, ce, rfl, rfl, hx, hce, hcv, hcl, rfl, hL, rfl, rfl⟩, ?_⟩
    show Steps p.tables e below _ (((({ U with heap := s₂.heap, slotsUsed := s₂.slotsUsed } : State).setVm s₂.vm).setTop g).pushFrame (.throwing q))
    rw [← hs₂]
    exact hsteps
end
variable {p : Program} {l : Launch} {e : Env} {R : Room} {s : State} {m : MethodId} {args : Array Value} {below : List Frame} {meth : Method} {c : Code} {T : State} {H : Heap} {locs : List Loc} {cells slots : Nat}
theorem vx_callVX (X : Stand p l e R s m args below meth c T locs cells slots) (hexec : p.tables.exec = Jvm.exec) {own C : String} {index : Nat} {y : MethodName} {bytes : ByteArray} {maxL : Nat} {ret : Option FieldType} {hh : List (Nat × Nat × Nat × Nat)}
    (hown : s.vm.findClass own = some m.cls) (hlink : (Cond.methodLink own index y).before args s = true) (hinst : (Cond.instanceMethod y).before args s = true) (hsel : (Cond.selects C y y).before args s = true)
    (hcode : (Cond.codeWith y bytes maxL ret hh).before args s = true) (hy : y.cls ≠ "java/lang/invoke/MethodHandle" ∧ y.cls ≠ "java/lang/invoke/VarHandle")
    {W9 : Nat} {Pre : Pt → Array Value → Prop} {Post : Pt → Array Value → Option Value → Pt → Prop} {PostX : Pt → Array Value → Addr → Pt → Prop} (hK : vx_Back l R p e below s args y 3 W9 Pre Post PostX)
    {b : Addr} {cellB : Cell} (hcell : T.heap[b]? = some cellB) (hobj : cellB.vm.isStatics = false) (hcls : s.vm.findClass C = some cellB.cls)
    {g : JFrame} (hg : g.method = m) (hsize : g.locals.size = c.maxLocals) {argsL rest : List Value} (hlen : ∀ sig, parseMethodDescriptor y.desc = some sig → argsL.length = sig.parameters.length)
    (hstack : g.stack = argsL.reverse ++ .ref b :: rest) (hW : 2 * g.monitorRoom + (rest.map fun v => v.category).sum ≤ W9) (hdg : decode c.code g.pc = .ok (.invokevirtual index, 3))
    (hpre : ∀ vm₁, s.WarmedH vm₁ → Pre ⟨T.setVm vm₁, locs, cells, slots⟩ (Value.ref b :: argsL).toArray) :
    (∃ (v : Option Value) (vm₁ : Vm) (B : Pt), s.WarmedH vm₁ ∧ Stand p l e R s m args below meth c B.U B.locs B.cells B.slots ∧ Post ⟨T.setVm vm₁, locs, cells, slots⟩ (Value.ref b :: argsL).toArray v B ∧
      ∀ target, Steps p.tables e below (B.U.setTop { g with pc := g.pc + 3, stack := v.toList ++ rest }) target → Steps p.tables e below (T.setTop g) target) ∨
    (∃ (q : Addr) (vm₁ : Vm) (B : Pt), s.WarmedH vm₁ ∧ Stand p l e R s m args below meth c B.U B.locs B.cells B.slots ∧ PostX ⟨T.setVm vm₁, locs, cells, slots⟩ (Value.ref b :: argsL).toArray q B ∧
      Steps p.tables e below (T.setTop g) ((B.U.setTop { g with stack := rest }).pushFrame (.throwing q))) := by
  obtain ⟨mk, methM, hnamed, hmethM, hstM, habM⟩ := Cond.instanceMethod_spec hinst
  obtain ⟨m8, methM', cM, hn8, hmethM', -, -, -, -, -, -, hsigM⟩ := Cond.codeWith_spec hcode
  cases Option.some.inj (hn8.symm.trans hnamed)
  cases hmethM.symm.trans hmethM'
  obtain ⟨c2, r2, m2, q1, q2, q3, q4, kP, hkP, hkPi⟩ := Cond.selects_spec hsel
  cases hcls.symm.trans q1
  cases (State.methodFound?_of_named hnamed hy).symm.trans q2
  cases hnamed.symm.trans q3
  have hselP : selectMethod e.platform s.vm cellB.cls mk = .method mk := by rw [Launch.admits_selectMethod X.admits]; exact q4
  obtain ⟨vm₁, X₁, hstep₁⟩ := X.invokevirtual hexec hown hlink hnamed hmethM hstM hkP hkPi hy (a := b) (cell := cellB) hcell
    (fun z h => by rw [h] at hobj; cases hobj) hselP hmethM habM hkP hkPi (g := g) hg (argsL := argsL) (rest := rest) (hlen _ hsigM) hstack hdg
  rcases hK m meth c ⟨T.setVm vm₁, locs, cells, slots⟩ { g with stack := rest } (.invokevirtual index) mk (Value.ref b :: argsL).toArray X₁ hg hsize hdg hW (X₁.named hnamed) (hpre vm₁ X₁.warmed) with ⟨v, B, X', hpost, hsteps⟩ | ⟨q, B, X', hpost, hsteps⟩
  · exact Or.inl ⟨v, vm₁, B, X₁.warmed, X', hpost, fun target h => hstep₁ _ fun acts => by rw [doInvoke_state]; exact hsteps.trans h⟩
  · exact Or.inr ⟨q, vm₁, B, X₁.warmed, X', hpost, hstep₁ _ fun acts => by rw [doInvoke_state]; exact hsteps⟩
theorem vx_callSX (X : Stand p l e R s m args below meth c T locs cells slots) (hexec : p.tables.exec = Jvm.exec) {own : String} {index : Nat} {y : MethodName} {bytes : ByteArray} {maxL : Nat} {ret : Option FieldType} {hh : List (Nat × Nat × Nat × Nat)}
    (hown : s.vm.findClass own = some m.cls) (hlink : (Cond.methodLink own index y).before args s = true) (hstat : (Cond.static y).before args s = true) (hinit : (Cond.initialized y.cls).before args s = true)
    (hcode : (Cond.codeWith y bytes maxL ret hh).before args s = true) (hy : y.cls ≠ "java/lang/invoke/MethodHandle" ∧ y.cls ≠ "java/lang/invoke/VarHandle")
    {W9 : Nat} {Pre : Pt → Array Value → Prop} {Post : Pt → Array Value → Option Value → Pt → Prop} {PostX : Pt → Array Value → Addr → Pt → Prop} (hK : vx_Back l R p e below s args y 3 W9 Pre Post PostX)
    {g : JFrame} (hg : g.method = m) (hsize : g.locals.size = c.maxLocals) {argsL rest : List Value} (hlen : ∀ sig, parseMethodDescriptor y.desc = some sig → argsL.length = sig.parameters.length)
    (hstack : g.stack = argsL.reverse ++ rest) (hW : 2 * g.monitorRoom + (rest.map fun v => v.category).sum ≤ W9) (hdg : decode c.code g.pc = .ok (.invokestatic index, 3))
    (hpre : ∀ vm₁, s.WarmedH vm₁ → Pre ⟨T.setVm vm₁, locs, cells, slots⟩ argsL.toArray) :
    (∃ (v : Option Value) (vm₁ : Vm) (B : Pt), s.WarmedH vm₁ ∧ Stand p l e R s m args below meth c B.U B.locs B.cells B.slots ∧ Post ⟨T.setVm vm₁, locs, cells, slots⟩ argsL.toArray v B ∧
      ∀ target, Steps p.tables e below (B.U.setTop { g with pc := g.pc + 3, stack := v.toList ++ rest }) target → Steps p.tables e below (T.setTop g) target) ∨
    (∃ (q : Addr) (vm₁ : Vm) (B : Pt), s.WarmedH vm₁ ∧ Stand p l e R s m args below meth c B.U B.locs B.cells B.slots ∧ PostX ⟨T.setVm vm₁, locs, cells, slots⟩ argsL.toArray q B ∧
      Steps p.tables e below (T.setTop g) ((B.U.setTop { g with stack := rest }).pushFrame (.throwing q))) := by
  obtain ⟨mk, methM, cM, hnamed, hmethM, -, -, -, -, -, -, hsigM⟩ := Cond.codeWith_spec hcode
  have hstatic : methM.isStatic = true := Cond.static_spec hnamed hmethM hstat
  obtain ⟨kP, hkP, -⟩ := className_of_methodNamed hnamed
  have hinitP : kP.init = .initialized := Cond.initialized_spec (findClass_of_methodNamed hnamed) hkP hinit
  obtain ⟨vm₁, X₁, hstep₁⟩ := X.invokestatic hexec hown hlink hnamed hmethM hstatic hkP hinitP hy (g := g) hg (argsL := argsL) (rest := rest) (hlen _ hsigM) hstack hdg
  rcases hK m meth c ⟨T.setVm vm₁, locs, cells, slots⟩ { g with stack := rest } (.invokestatic index) mk argsL.toArray X₁ hg hsize hdg hW (X₁.named hnamed) (hpre vm₁ X₁.warmed) with ⟨v, B, X', hpost, hsteps⟩ | ⟨q, B, X', hpost, hsteps⟩
  · exact Or.inl ⟨v, vm₁, B, X₁.warmed, X', hpost, fun target h => hstep₁ _ fun acts => by rw [doInvoke_state]; exact hsteps.trans h⟩
  · exact Or.inr ⟨q, vm₁, B, X₁.warmed, X', hpost, hstep₁ _ fun acts => by rw [doInvoke_state]; exact hsteps⟩
theorem vx_callVW (X : Stand p l e R s m args below meth c T locs cells slots) (hexec : p.tables.exec = Jvm.exec) {own C : String} {index : Nat} {y : MethodName} {bytes : ByteArray} {maxL : Nat} {ret : Option FieldType} {hh : List (Nat × Nat × Nat × Nat)}
    (hown : s.vm.findClass own = some m.cls) (hlink : (Cond.methodLink own index y).before args s = true) (hinst : (Cond.instanceMethod y).before args s = true) (hsel : (Cond.selects C y y).before args s = true)
    (hcode : (Cond.codeWith y bytes maxL ret hh).before args s = true) (hy : y.cls ≠ "java/lang/invoke/MethodHandle" ∧ y.cls ≠ "java/lang/invoke/VarHandle")
    {W9 : Nat} {Pre : Pt → Array Value → Prop} {Post : Pt → Array Value → Option Value → Pt → Prop} (hK : Back l R p e below s args y 3 W9 Pre Post)
    {b : Addr} {cellB : Cell} (hcell : T.heap[b]? = some cellB) (hobj : cellB.vm.isStatics = false) (hcls : s.vm.findClass C = some cellB.cls)
    {g : JFrame} (hg : g.method = m) (hsize : g.locals.size = c.maxLocals) {argsL rest : List Value} (hlen : ∀ sig, parseMethodDescriptor y.desc = some sig → argsL.length = sig.parameters.length)
    (hstack : g.stack = argsL.reverse ++ .ref b :: rest) (hW : 2 * g.monitorRoom + (rest.map fun v => v.category).sum ≤ W9) (hdg : decode c.code g.pc = .ok (.invokevirtual index, 3))
    (hpre : ∀ vm₁, s.WarmedH vm₁ → Pre ⟨T.setVm vm₁, locs, cells, slots⟩ (Value.ref b :: argsL).toArray) :
    ∃ (v : Option Value) (vm₁ : Vm) (B : Pt), s.WarmedH vm₁ ∧ Stand p l e R s m args below meth c B.U B.locs B.cells B.slots ∧ Post ⟨T.setVm vm₁, locs, cells, slots⟩ (Value.ref b :: argsL).toArray v B ∧
      ∀ target, Steps p.tables e below (B.U.setTop { g with pc := g.pc + 3, stack := v.toList ++ rest }) target → Steps p.tables e below (T.setTop g) target := by
  obtain ⟨mk, methM, hnamed, hmethM, hstM, habM⟩ := Cond.instanceMethod_spec hinst
  obtain ⟨m8, methM', cM, hn8, hmethM', -, -, -, -, -, -, hsigM⟩ := Cond.codeWith_spec hcode
  cases Option.some.inj (hn8.symm.trans hnamed)
  cases hmethM.symm.trans hmethM'
  obtain ⟨c2, r2, m2, q1, q2, q3, q4, kP, hkP, hkPi⟩ := Cond.selects_spec hsel
  cases hcls.symm.trans q1
  cases (State.methodFound?_of_named hnamed hy).symm.trans q2
  cases hnamed.symm.trans q3
  have hselP : selectMethod e.platform s.vm cellB.cls mk = .method mk := by rw [Launch.admits_selectMethod X.admits]; exact q4
  obtain ⟨vm₁, X₁, hstep₁⟩ := X.invokevirtual hexec hown hlink hnamed hmethM hstM hkP hkPi hy (a := b) (cell := cellB) hcell
    (fun z h => by rw [h] at hobj; cases hobj) hselP hmethM habM hkP hkPi (g := g) hg (argsL := argsL) (rest := rest) (hlen _ hsigM) hstack hdg
  obtain ⟨v, B, X', hpost, hsteps⟩ := hK m meth c ⟨T.setVm vm₁, locs, cells, slots⟩ { g with stack := rest } (.invokevirtual index) mk (Value.ref b :: argsL).toArray X₁ hg hsize hdg hW (X₁.named hnamed) (hpre vm₁ X₁.warmed)
  exact ⟨v, vm₁, B, X₁.warmed, X', hpost, fun target h => hstep₁ _ fun acts => by rw [doInvoke_state]; exact hsteps.trans h⟩
abbrev vx_CVW (R : Room) (s : State) (args : Array Value) (own C : String) (index : Nat) (y : MethodName) (bytes : ByteArray) (maxL : Nat) (ret : Option FieldType) (hh : List (Nat × Nat × Nat × Nat)) (ws : List Cond) (rm : Room) (mc ms n : Nat) : Prop :=
  (rm.cells = mc ∧ rm.slots = ms ∧ rm.frames + 1 ≤ R.frames ∧ 8 + (maxL + 11) + rm.locals ≤ R.locals ∧ (∀ w ∈ ws, ∀ (a' : Array Value) (U : State), s.WarmedH U.vm → w.before a' U = true) ∧ Cond.codeWith y bytes maxL ret hh ∈ ws) ∧
  (Cond.codeWith y bytes maxL ret hh).before args s = true ∧ (Cond.initialized y.cls).before args s = true ∧ (y.cls ≠ "java/lang/invoke/MethodHandle" ∧ y.cls ≠ "java/lang/invoke/VarHandle") ∧
  (∀ sig, parseMethodDescriptor y.desc = some sig → n = sig.parameters.length) ∧ (Cond.methodLink own index y).before args s = true ∧ (Cond.instanceMethod y).before args s = true ∧ (Cond.selects C y y).before args s = true
theorem vx_cwVW {own C : String} {index maxL mc ms : Nat} {y : MethodName} {bytes : ByteArray} {ret : Option FieldType} {hh : List (Nat × Nat × Nat × Nat)} {Ts ws ws' : List Cond} {rm : Room} (n : Nat) (ht : ∀ w ∈ Ts, w.before args s = true) (hT : GoodIn Ts (wsV own index C y ws)) (hw : ws = Cond.codeWith y bytes maxL ret hh :: ws') (hrc : rm.cells = mc) (hrs : rm.slots = ms)
    (hd : y.cls = C ∧ y.cls ≠ "java/lang/invoke/MethodHandle" ∧ y.cls ≠ "java/lang/invoke/VarHandle" ∧ (parseMethodDescriptor y.desc).map (fun d => d.parameters.length) = some n) (hR : rm.frames + 1 ≤ R.frames ∧ 8 + (maxL + 11) + rm.locals ≤ R.locals) :
    vx_CVW R s args own C index y bytes maxL ret hh ws rm mc ms n := by
  obtain ⟨hC, hd⟩ := hd
  subst hC
  have ok : ∀ w ∈ wsV own index y.cls y ws, w.before args s = true := fun w h => ht w (hT w h).1
  have hG : GoodIn Ts ws := fun w h => hT w (by unfold wsV; exact List.mem_append_right _ h)
  have hc : Cond.codeWith y bytes maxL ret hh ∈ ws := by rw [hw]; exact List.mem_cons_self
  refine ⟨⟨hrc, hrs, hR.1, hR.2, pay_in ht hG, hc⟩, ht _ (hG _ hc).1, ok _ (by simp [wsV]), ⟨hd.1, hd.2.1⟩, fun sig h => ?_, ok _ (by simp [wsV]), ok _ (by simp [wsV]), ok _ (by simp [wsV])⟩
  have h2 := hd.2.2
  rw [h] at h2
  exact (Option.some.inj h2).symm
theorem vx_runVW {y : MethodName} {bytes cc : ByteArray} {maxL nL mc ms n index : Nat} {ret : Option FieldType} {hh : List (Nat × Nat × Nat × Nat)} {ws : List Cond} {rm : Room} {Pc : Array Value → State → Prop} {Qc : Array Value → State → Outcome → State → Prop} {free : Addr → Prop} {Ts : List Cond} {own C : String} {b : Addr} {As rest : List Value} {g : JFrame}
    (S : CallFix p m c cc nL s args Ts own) (hM : Met l y ws rm Pc Qc mc ms free) (cw : vx_CVW R s args own C index y bytes maxL ret hh ws rm mc ms n) (hp : PreV s H C b Pc As)
    (hg : g.method = m) (hn : As.length = n) (hsize : g.locals.size = nL) (hstack : g.stack = As.reverse ++ .ref b :: rest) (hW : 2 * g.monitorRoom + (rest.map fun v => v.category).sum ≤ 8) (hdg : decode cc g.pc = .ok (.invokevirtual index, 3)) (hf : cells + mc ≤ R.cells ∧ slots + ms ≤ R.slots) :
    va_Run p l e R s m args below meth c H locs cells slots mc ms g rest (Qc (Value.ref b :: As).toArray) free := by
  obtain ⟨⟨hrc, hrs, hfr, hlo, hws, hcw⟩, hcode, hini, hy, hlen, hl, hin, hse⟩ := cw
  have hK : Back l R p e below s args y 3 8 (PreOf R mc ms Pc) (PostOf Qc mc ms free) := va_backW (hh := hh) (bytes := bytes) (maxL := maxL) (ret := ret) hM hp.1 hrc hrs hfr hlo hws hcw (fun a' U hW => word_at hW (Or.inl (by first | rfl | simp [Cond.onTables, Cond.keeps, Cond.steady])) hini)
  obtain ⟨hx, hb, hml, ho, -⟩ := S
  obtain ⟨-, ⟨cellB, hcB, hoB, hclB⟩, hPc⟩ := hp
  intro T hT X
  obtain ⟨v, vm₁, ⟨U', l2, c2, s2⟩, hW₁, X', ⟨g', mk, t, L, e1, e2, hq, h1, hL, h2, h3⟩, st⟩ := vx_callVW X hx (C := C) (hh := hh) (bytes := bytes) (maxL := maxL) (ret := ret) ho hl hin hse hcode hy hK (by rw [hT]; exact hcB) hoB hclB hg (hsize.trans hml.symm) (argsL := As) (rest := rest) (fun sig h => hn.trans (hlen sig h)) hstack hW (by rw [hb]; exact hdg)
    (fun vm₁ hW₁ => ⟨hf.1, hf.2, hPc (T.setVm vm₁) hT hW₁⟩)
  dsimp only [Pt.U, Pt.locs, Pt.cells, Pt.slots] at X' e1 e2 h1 h2 h3 st
  subst h1; subst h2; subst h3
  exact ⟨v, (T.setVm vm₁).calling g' mk (Value.ref b :: As).toArray, t, U', L, hT, X', hL, e1, e2, hq, st⟩
section
variable {y : MethodName} {bytes cc : ByteArray} {maxL nL mc ms n index : Nat} {ret : Option FieldType} {ws : List Cond} {rm : Room} {Pc : Array Value → State → Prop} {Qc : Array Value → State → Outcome → State → Prop} {XC : String → State → State → Prop} {free : Addr → Prop} {Ts : List Cond} {own C : String} {b : Addr} {As rest : List Value} {g : JFrame}
theorem vx_runVX {hh : List (Nat × Nat × Nat × Nat)} (S : CallFix p m c cc nL s args Ts own) (hM : vx_Met l y ws rm Pc Qc XC mc ms free) (cw : vx_CVW R s args own C index y bytes maxL ret hh ws rm mc ms n) (hp : PreV s H C b Pc As)
    (hg : g.method = m) (hn : As.length = n) (hsize : g.locals.size = nL) (hstack : g.stack = As.reverse ++ .ref b :: rest) (hW : 2 * g.monitorRoom + (rest.map fun v => v.category).sum ≤ 8) (hdg : decode cc g.pc = .ok (.invokevirtual index, 3)) (hf : cells + mc ≤ R.cells ∧ slots + ms ≤ R.slots) :
    vx_Run p l e R s m args below meth c H locs cells slots mc ms g rest (Qc (Value.ref b :: As).toArray) XC free := by
  obtain ⟨⟨hrc, hrs, hfr, hlo, hws, hcw⟩, hcode, hini, hy, hlen, hl, hin, hse⟩ := cw
  have hK : vx_Back l R p e below s args y 3 8 (PreOf R mc ms Pc) (PostOf Qc mc ms free) (vx_Post XC mc ms free) := vx_backW (hh := hh) (bytes := bytes) (maxL := maxL) (ret := ret) hM hp.1 hrc hrs hfr hlo hws hcw (fun a' U hW => word_at hW (Or.inl (by first | rfl | simp [Cond.onTables, Cond.keeps, Cond.steady])) hini)
  obtain ⟨hx, hb, hml, ho, -⟩ := S
  obtain ⟨-, ⟨cellB, hcB, hoB, hclB⟩, hPc⟩ := hp
  intro T hT X
  rcases vx_callVX X hx (C := C) (hh := hh) (bytes := bytes) (maxL := maxL) (ret := ret) ho hl hin hse hcode hy hK (by rw [hT]; exact hcB) hoB hclB hg (hsize.trans hml.symm) (argsL := As) (rest := rest) (fun sig h => hn.trans (hlen sig h)) hstack hW (by rw [hb]; exact hdg)
    (fun vm₁ hW₁ => ⟨hf.1, hf.2, hPc (T.setVm vm₁) hT hW₁⟩) with ⟨v, vm₁, ⟨U', l2, c2, s2⟩, hW₁, X', ⟨g', mk, t, L, e1, e2, hq, h1, hL, h2, h3⟩, st⟩ | ⟨q, vm₁, ⟨U', l2, c2, s2⟩, hW₁, X', ⟨g', mk, t, L, E, ce, e1, e2, hq, hce, hcv, hcl, h1, hL, h2, h3⟩, st⟩
  · dsimp only [Pt.U, Pt.locs, Pt.cells, Pt.slots] at X' e1 e2 h1 h2 h3 st
    subst h1; subst h2; subst h3
    exact Or.inl ⟨v, (T.setVm vm₁).calling g' mk (Value.ref b :: As).toArray, t, U', L, hT, X', hL, e1, e2, hq, st⟩
  · dsimp only [Pt.U, Pt.locs, Pt.cells, Pt.slots] at X' e1 e2 h1 h2 h3 st hcl
    subst h1; subst h2; subst h3
    exact Or.inr ⟨q, (T.setVm vm₁).calling g' mk (Value.ref b :: As).toArray, t, U', L, E, ce, hT, X', hL, e1, e2, hq, hce, hcv, vx_cls hW₁ hcl, st⟩
theorem vx_runSX {hh : List (Nat × Nat × Nat × Nat)} (S : CallFix p m c cc nL s args Ts own) (hM : vx_Met l y ws rm Pc Qc XC mc ms free) (cw : vx_CSW R s args own index y bytes maxL ret hh ws rm mc ms n) (hp : PreS s H Pc As)
    (hg : g.method = m) (hn : As.length = n) (hsize : g.locals.size = nL) (hstack : g.stack = As.reverse ++ rest) (hW : 2 * g.monitorRoom + (rest.map fun v => v.category).sum ≤ 8) (hdg : decode cc g.pc = .ok (.invokestatic index, 3)) (hf : cells + mc ≤ R.cells ∧ slots + ms ≤ R.slots) :
    vx_Run p l e R s m args below meth c H locs cells slots mc ms g rest (Qc As.toArray) XC free := by
  obtain ⟨⟨hrc, hrs, hfr, hlo, hws, hcw⟩, hcode, hini, hy, hlen, hl, hstt⟩ := cw
  have hK : vx_Back l R p e below s args y 3 8 (PreOf R mc ms Pc) (PostOf Qc mc ms free) (vx_Post XC mc ms free) := vx_backW (hh := hh) (bytes := bytes) (maxL := maxL) (ret := ret) hM hp.1 hrc hrs hfr hlo hws hcw (fun a' U hW => word_at hW (Or.inl (by first | rfl | simp [Cond.onTables, Cond.keeps, Cond.steady])) hini)
  obtain ⟨hx, hb, hml, ho, -⟩ := S
  intro T hT X
  rcases vx_callSX X hx (hh := hh) (bytes := bytes) (maxL := maxL) (ret := ret) ho hl hstt hini hcode hy hK hg (hsize.trans hml.symm) (argsL := As) (rest := rest) (fun sig h => hn.trans (hlen sig h)) hstack hW (by rw [hb]; exact hdg)
    (fun vm₁ hW₁ => ⟨hf.1, hf.2, hp.2 (T.setVm vm₁) hT hW₁⟩) with ⟨v, vm₁, ⟨U', l2, c2, s2⟩, hW₁, X', ⟨g', mk, t, L, e1, e2, hq, h1, hL, h2, h3⟩, st⟩ | ⟨q, vm₁, ⟨U', l2, c2, s2⟩, hW₁, X', ⟨g', mk, t, L, E, ce, e1, e2, hq, hce, hcv, hcl, h1, hL, h2, h3⟩, st⟩
  · dsimp only [Pt.U, Pt.locs, Pt.cells, Pt.slots] at X' e1 e2 h1 h2 h3 st
    subst h1; subst h2; subst h3
    exact Or.inl ⟨v, (T.setVm vm₁).calling g' mk As.toArray, t, U', L, hT, X', hL, e1, e2, hq, st⟩
  · dsimp only [Pt.U, Pt.locs, Pt.cells, Pt.slots] at X' e1 e2 h1 h2 h3 st hcl
    subst h1; subst h2; subst h3
    exact Or.inr ⟨q, (T.setVm vm₁).calling g' mk As.toArray, t, U', L, E, ce, hT, X', hL, e1, e2, hq, hce, hcv, vx_cls hW₁ hcl, st⟩
end
end VXH
theorem vx_ofWH {l : Launch} {y : MethodName} {ws ws' : List Cond} {rm : Room} {Pc : Array Value → State → Prop} {Qc : Array Value → State → Outcome → State → Prop} {XC : String → State → State → Prop} {mc ms : Nat} {free : Addr → Prop} {cc : ByteArray} {maxL : Nat} {ret : Option FieldType} {hh : List (Nat × Nat × Nat × Nat)}
    (hy : plainName y.cls = true) (hw : ws = Cond.codeWith y cc maxL ret hh :: ws')
    (body : ∀ p e s m args below meth c s₁, BodyLoose p l y (headSpec ws rm) cc maxL ret e s m args below meth c s₁ → c.maxLocals = maxL → Pc args s →
      W p l e (headSpec ws rm).room s m args below meth c s.heap [] 0 0 (vx_MQ below Qc XC args s mc ms free) (entryFrame m args maxL)) : vx_Met l y ws rm Pc Qc XC mc ms free := by
  refine MetFree.of_bodyS (code := cc) (maxLocals := maxL) (ret := ret) hy ?_ ?_
  · intro args s m h hn
    obtain ⟨m9, meth, c, hn9, h1, h2, h3, h4, -, h5, h6, -⟩ := Cond.codeWith_spec (atoms_spec (ws := ws) h _ (by rw [hw]; exact List.mem_cons_self))
    cases hn.symm.trans hn9
    exact ⟨meth, c, h1, h2, h3, h4, h5, h6⟩
  · intro p e s m args below meth c s₁ B hml hP _
    have hh0 : s₁.heap = s.heap := by rw [B.state]; rfl
    obtain ⟨t, a1, o, b1, b2, b3⟩ := body p e s m args below meth c s₁ B hml hP s₁ hh0 (Stand.of_body B)
    exact ⟨t, o, a1, b1, b2, b3⟩
/-! ===== END ===== -/
end
section
section NAMES
def R_S : String := "SecureEntry"
def T_S : u_T := fun k => match k with
  | 0 => ("SecureEntry", "configuration", "[I", true)
  | 1 => ("SecureEntry", "keys", "[I", true)
  | 2 => ("SecureEntry", "certificates", "[LSecureEntry$Certificate;", true)
  | 3 => ("SecureEntry", "log", "LSecureEntry$Log;", true)
  | 4 => ("SecureEntry", "time", "I", false)
  | 5 => ("SecureEntry", "up", "Z", false)
  | 6 => ("SecureEntry", "userState", "I", false)
  | 7 => ("SecureEntry", "userStateSince", "I", false)
  | 8 => ("SecureEntry", "outerToken", "I", false)
  | 9 => ("SecureEntry", "innerToken", "I", false)
  | 10 => ("SecureEntry", "administratorRole", "I", false)
  | 11 => ("SecureEntry", "unlockedUntil", "I", false)
  | 12 => ("SecureEntry", "alarmTime", "I", false)
  | _ => ("SecureEntry", "doorOpen", "Z", false)
def ty_S : Nat → FieldType := fun k => match k with
  | 0 => .array .int
  | 1 => .array .int
  | 2 => .array (.object "SecureEntry$Certificate")
  | 3 => .object "SecureEntry$Log"
  | 4 => .int
  | 5 => .boolean
  | 6 => .int
  | 7 => .int
  | 8 => .int
  | 9 => .int
  | 10 => .int
  | 11 => .int
  | 12 => .int
  | _ => .boolean
theorem n_S : ∀ a, a < 14 → ∀ b, b < 14 → a ≠ b → (T_S a).2.1 ≠ (T_S b).2.1 := by decide +kernel
theorem ty_S_ok : ∀ k, k < 14 → parseFieldDescriptor (T_S k).2.2.1 = some (ty_S k) := by decide +kernel
def R_C : String := "SecureEntry$Certificate"
def T_C : u_T := fun k => match k with
  | 0 => ("SecureEntry$Certificate", "kind", "I", true)
  | 1 => ("SecureEntry$Certificate", "issuer", "I", true)
  | 2 => ("SecureEntry$Certificate", "holder", "I", true)
  | 3 => ("SecureEntry$Certificate", "value", "I", true)
  | 4 => ("SecureEntry$Certificate", "from", "I", true)
  | 5 => ("SecureEntry$Certificate", "to", "I", true)
  | _ => ("SecureEntry$Certificate", "signature", "I", true)
def ty_C : Nat → FieldType := fun k => match k with
  | 0 => .int
  | 1 => .int
  | 2 => .int
  | 3 => .int
  | 4 => .int
  | 5 => .int
  | _ => .int
theorem n_C : ∀ a, a < 7 → ∀ b, b < 7 → a ≠ b → (T_C a).2.1 ≠ (T_C b).2.1 := by decide +kernel
theorem ty_C_ok : ∀ k, k < 7 → parseFieldDescriptor (T_C k).2.2.1 = some (ty_C k) := by decide +kernel
def R_O : String := "SecureEntry$Log"
def T_O : u_T := fun k => match k with
  | 0 => ("SecureEntry$Log", "kinds", "[I", true)
  | 1 => ("SecureEntry$Log", "times", "[I", true)
  | 2 => ("SecureEntry$Log", "holders", "[I", true)
  | 3 => ("SecureEntry$Log", "size", "I", false)
  | _ => ("SecureEntry$Log", "alarm", "Z", false)
def ty_O : Nat → FieldType := fun k => match k with
  | 0 => .array .int
  | 1 => .array .int
  | 2 => .array .int
  | 3 => .int
  | _ => .boolean
theorem n_O : ∀ a, a < 5 → ∀ b, b < 5 → a ≠ b → (T_O a).2.1 ≠ (T_O b).2.1 := by decide +kernel
theorem ty_O_ok : ∀ k, k < 5 → parseFieldDescriptor (T_O k).2.2.1 = some (ty_O k) := by decide +kernel
def R_M : String := "SecureEntryModel"
def T_M : u_T := fun k => match k with
  | 0 => ("SecureEntryModel", "thrown", "I", false)
  | 1 => ("SecureEntryModel", "time", "I", false)
  | 2 => ("SecureEntryModel", "config", "[I", true)
  | 3 => ("SecureEntryModel", "keys", "[I", true)
  | 4 => ("SecureEntryModel", "has", "[Z", true)
  | 5 => ("SecureEntryModel", "issuer", "[I", true)
  | 6 => ("SecureEntryModel", "holder", "[I", true)
  | 7 => ("SecureEntryModel", "value", "[I", true)
  | 8 => ("SecureEntryModel", "from", "[I", true)
  | 9 => ("SecureEntryModel", "to", "[I", true)
  | 10 => ("SecureEntryModel", "sign", "[I", true)
  | 11 => ("SecureEntryModel", "outer", "I", false)
  | 12 => ("SecureEntryModel", "inner", "I", false)
  | 13 => ("SecureEntryModel", "up", "Z", false)
  | 14 => ("SecureEntryModel", "user", "I", false)
  | 15 => ("SecureEntryModel", "since", "I", false)
  | 16 => ("SecureEntryModel", "role", "I", false)
  | 17 => ("SecureEntryModel", "until", "I", false)
  | 18 => ("SecureEntryModel", "door", "Z", false)
  | 19 => ("SecureEntryModel", "alarmTime", "I", false)
  | 20 => ("SecureEntryModel", "logKind", "[I", true)
  | 21 => ("SecureEntryModel", "logTime", "[I", true)
  | 22 => ("SecureEntryModel", "logHolder", "[I", true)
  | 23 => ("SecureEntryModel", "logged", "I", false)
  | _ => ("SecureEntryModel", "logAlarm", "Z", false)
def ty_M : Nat → FieldType := fun k => match k with
  | 0 => .int
  | 1 => .int
  | 2 => .array .int
  | 3 => .array .int
  | 4 => .array .boolean
  | 5 => .array .int
  | 6 => .array .int
  | 7 => .array .int
  | 8 => .array .int
  | 9 => .array .int
  | 10 => .array .int
  | 11 => .int
  | 12 => .int
  | 13 => .boolean
  | 14 => .int
  | 15 => .int
  | 16 => .int
  | 17 => .int
  | 18 => .boolean
  | 19 => .int
  | 20 => .array .int
  | 21 => .array .int
  | 22 => .array .int
  | 23 => .int
  | _ => .boolean
theorem n_M : ∀ a, a < 25 → ∀ b, b < 25 → a ≠ b → (T_M a).2.1 ≠ (T_M b).2.1 := by decide +kernel
theorem ty_M_ok : ∀ k, k < 25 → parseFieldDescriptor (T_M k).2.2.1 = some (ty_M k) := by decide +kernel
def R_L : String := "SecureEntryLaw"
def R_I : String := "java/lang/Integer"
def goT : List Cond := lw_tbl.filter goodWord
def goB (w : Cond) : Bool := lw_tbl.contains w && goodWord w
theorem goI {w : Cond} (h : goB w = true) : w ∈ goT := by
  unfold goB at h
  rw [Bool.and_eq_true] at h
  exact List.mem_filter.mpr ⟨List.contains_iff_mem.mp h.1, h.2⟩
theorem goG {w : Cond} (h : w ∈ goT) : goodWord w = true := (List.mem_filter.mp h).2
set_option maxRecDepth 100000 in
theorem in_S : ∀ w ∈ u_ws R_S T_S 14, w ∈ goT := fun w h => goI (List.all_eq_true.mp (show (u_ws R_S T_S 14).all goB = true by decide +kernel) w h)
set_option maxRecDepth 100000 in
theorem in_C : ∀ w ∈ u_ws R_C T_C 7, w ∈ goT := fun w h => goI (List.all_eq_true.mp (show (u_ws R_C T_C 7).all goB = true by decide +kernel) w h)
set_option maxRecDepth 100000 in
theorem in_O : ∀ w ∈ u_ws R_O T_O 5, w ∈ goT := fun w h => goI (List.all_eq_true.mp (show (u_ws R_O T_O 5).all goB = true by decide +kernel) w h)
set_option maxRecDepth 100000 in
theorem in_M : ∀ w ∈ u_ws R_M T_M 25, w ∈ goT := fun w h => goI (List.all_eq_true.mp (show (u_ws R_M T_M 25).all goB = true by decide +kernel) w h)
abbrev kCl : List vw_C := [(R_C, T_C, 7), (R_O, T_O, 5), (R_S, T_S, 14), (R_M, T_M, 25)]
abbrev b_S_init : ByteArray := prog_1_method_1_code
def y_S_init : MethodName := ⟨R_S, "<init>", "()V"⟩
def w_S_init : List Cond := .code y_S_init b_S_init 1 (Option.none : Option Jvm.ClassFile.FieldType) :: goT
abbrev b_O_init : ByteArray := prog_3_method_1_code
def y_O_init : MethodName := ⟨R_O, "<init>", "()V"⟩
def w_O_init : List Cond := .code y_O_init b_O_init 1 (Option.none : Option Jvm.ClassFile.FieldType) :: goT
abbrev b_S_door : ByteArray := prog_1_method_15_code
def y_S_door : MethodName := ⟨R_S, "door", "(Z)I"⟩
def w_S_door : List Cond := .code y_S_door b_S_door 2 (Option.some Jvm.ClassFile.FieldType.int) :: goT
abbrev b_S_isUnlocked : ByteArray := prog_1_method_49_code
def y_S_isUnlocked : MethodName := ⟨R_S, "isUnlocked", "()Z"⟩
def w_S_isUnlocked : List Cond := .code y_S_isUnlocked b_S_isUnlocked 1 (Option.some Jvm.ClassFile.FieldType.boolean) :: goT
abbrev b_O_write : ByteArray := prog_3_method_2_code
def y_O_write : MethodName := ⟨R_O, "write", "(III)V"⟩
def w_O_write : List Cond := .code y_O_write b_O_write 4 (Option.none : Option Jvm.ClassFile.FieldType) :: goT
abbrev b_O_loseOldest : ByteArray := prog_3_method_3_code
def y_O_loseOldest : MethodName := ⟨R_O, "loseOldest", "()V"⟩
def w_O_loseOldest : List Cond := .code y_O_loseOldest b_O_loseOldest 1 (Option.none : Option Jvm.ClassFile.FieldType) :: goT
abbrev b_L_signature : ByteArray := method_3_code
def y_L_signature : MethodName := ⟨R_L, "signature", "(LSecureEntry;IIIIII[J)I"⟩
def h_L_signature : List (Nat × Nat × Nat × Nat) := [((0 : Nat), (18 : Nat), (21 : Nat), (13 : Nat))]
def w_L_signature : List Cond := .codeWith y_L_signature b_L_signature 9 (Option.some Jvm.ClassFile.FieldType.int) h_L_signature :: goT
abbrev b_S_signature : ByteArray := prog_1_method_2_code
def y_S_signature : MethodName := ⟨R_S, "signature", "(IIIIII)I"⟩
def w_S_signature : List Cond := .code y_S_signature b_S_signature 7 (Option.some Jvm.ClassFile.FieldType.int) :: goT
abbrev b_S_areCertificateNumbers : ByteArray := prog_1_method_22_code
def y_S_areCertificateNumbers : MethodName := ⟨R_S, "areCertificateNumbers", "(IIIIII)Z"⟩
def w_S_areCertificateNumbers : List Cond := .code y_S_areCertificateNumbers b_S_areCertificateNumbers 6 (Option.some Jvm.ClassFile.FieldType.boolean) :: goT
abbrev b_S_isWithin : ByteArray := prog_1_method_20_code
def y_S_isWithin : MethodName := ⟨R_S, "isWithin", "(III)Z"⟩
def w_S_isWithin : List Cond := .code y_S_isWithin b_S_isWithin 3 (Option.some Jvm.ClassFile.FieldType.boolean) :: goT
abbrev b_S_isEnrolled : ByteArray := prog_1_method_30_code
def y_S_isEnrolled : MethodName := ⟨R_S, "isEnrolled", "(I)Z"⟩
def w_S_isEnrolled : List Cond := .code y_S_isEnrolled b_S_isEnrolled 2 (Option.some Jvm.ClassFile.FieldType.boolean) :: goT
abbrev b_S_rightSignature : ByteArray := prog_1_method_32_code
def y_S_rightSignature : MethodName := ⟨R_S, "rightSignature", "(IIIIII)I"⟩
def w_S_rightSignature : List Cond := .code y_S_rightSignature b_S_rightSignature 8 (Option.some Jvm.ClassFile.FieldType.int) :: goT
abbrev b_L_certify : ByteArray := method_4_code
def y_L_certify : MethodName := ⟨R_L, "certify", "(LSecureEntry;IIIIIIII[J)I"⟩
def h_L_certify : List (Nat × Nat × Nat × Nat) := [((0 : Nat), (22 : Nat), (25 : Nat), (19 : Nat)), ((0 : Nat), (22 : Nat), (29 : Nat), (13 : Nat)), ((0 : Nat), (22 : Nat), (33 : Nat), (21 : Nat))]
def w_L_certify : List Cond := .codeWith y_L_certify b_L_certify 11 (Option.some Jvm.ClassFile.FieldType.int) h_L_certify :: goT
abbrev b_S_certify : ByteArray := prog_1_method_3_code
def y_S_certify : MethodName := ⟨R_S, "certify", "(IIIIIIII)I"⟩
def w_S_certify : List Cond := .code y_S_certify b_S_certify 10 (Option.some Jvm.ClassFile.FieldType.int) :: goT
abbrev b_S_requireToken : ByteArray := prog_1_method_23_code
def y_S_requireToken : MethodName := ⟨R_S, "requireToken", "(I)V"⟩
def w_S_requireToken : List Cond := .code y_S_requireToken b_S_requireToken 1 (Option.none : Option Jvm.ClassFile.FieldType) :: goT
abbrev b_S_requireInNoReader : ByteArray := prog_1_method_26_code
def y_S_requireInNoReader : MethodName := ⟨R_S, "requireInNoReader", "(I)V"⟩
def w_S_requireInNoReader : List Cond := .code y_S_requireInNoReader b_S_requireInNoReader 2 (Option.none : Option Jvm.ClassFile.FieldType) :: goT
abbrev b_S_certificateOf : ByteArray := prog_1_method_33_code
def y_S_certificateOf : MethodName := ⟨R_S, "certificateOf", "(II)LSecureEntry$Certificate;"⟩
def w_S_certificateOf : List Cond := .code y_S_certificateOf b_S_certificateOf 3 (Option.some (Jvm.ClassFile.FieldType.object "SecureEntry$Certificate")) :: goT
abbrev b_C_init : ByteArray := prog_2_method_1_code
def y_C_init : MethodName := ⟨R_C, "<init>", "(IIIIIII)V"⟩
def w_C_init : List Cond := .code y_C_init b_C_init 8 (Option.none : Option Jvm.ClassFile.FieldType) :: goT
abbrev b_S_give : ByteArray := prog_1_method_34_code
def y_S_give : MethodName := ⟨R_S, "give", "(ILSecureEntry$Certificate;)V"⟩
def w_S_give : List Cond := .code y_S_give b_S_give 3 (Option.none : Option Jvm.ClassFile.FieldType) :: goT
abbrev b_L_enrol : ByteArray := method_5_code
def y_L_enrol : MethodName := ⟨R_L, "enrol", "(LSecureEntry;II[J)I"⟩
def h_L_enrol : List (Nat × Nat × Nat × Nat) := [((0 : Nat), (10 : Nat), (13 : Nat), (13 : Nat)), ((0 : Nat), (10 : Nat), (17 : Nat), (21 : Nat))]
def w_L_enrol : List Cond := .codeWith y_L_enrol b_L_enrol 5 (Option.some Jvm.ClassFile.FieldType.int) h_L_enrol :: goT
abbrev b_S_enrol : ByteArray := prog_1_method_4_code
def y_S_enrol : MethodName := ⟨R_S, "enrol", "(II)I"⟩
def w_S_enrol : List Cond := .code y_S_enrol b_S_enrol 4 (Option.some Jvm.ClassFile.FieldType.int) :: goT
abbrev b_L_start : ByteArray := method_6_code
def y_L_start : MethodName := ⟨R_L, "start", "(LSecureEntry;[J)I"⟩
def h_L_start : List (Nat × Nat × Nat × Nat) := [((0 : Nat), (8 : Nat), (11 : Nat), (21 : Nat))]
def w_L_start : List Cond := .codeWith y_L_start b_L_start 3 (Option.some Jvm.ClassFile.FieldType.int) h_L_start :: goT
abbrev b_S_start : ByteArray := prog_1_method_5_code
def y_S_start : MethodName := ⟨R_S, "start", "()I"⟩
def w_S_start : List Cond := .code y_S_start b_S_start 2 (Option.some Jvm.ClassFile.FieldType.int) :: goT
abbrev b_S_enrolledIssuers : ByteArray := prog_1_method_31_code
def y_S_enrolledIssuers : MethodName := ⟨R_S, "enrolledIssuers", "()I"⟩
def w_S_enrolledIssuers : List Cond := .code y_S_enrolledIssuers b_S_enrolledIssuers 3 (Option.some Jvm.ClassFile.FieldType.int) :: goT
abbrev b_S_becomeUserState : ByteArray := prog_1_method_42_code
def y_S_becomeUserState : MethodName := ⟨R_S, "becomeUserState", "(I)V"⟩
def w_S_becomeUserState : List Cond := .code y_S_becomeUserState b_S_becomeUserState 2 (Option.none : Option Jvm.ClassFile.FieldType) :: goT
abbrev b_L_insert : ByteArray := method_7_code
def y_L_insert : MethodName := ⟨R_L, "insert", "(LSecureEntry;I[J)I"⟩
def h_L_insert : List (Nat × Nat × Nat × Nat) := [((0 : Nat), (9 : Nat), (12 : Nat), (21 : Nat)), ((0 : Nat), (9 : Nat), (15 : Nat), (19 : Nat))]
def w_L_insert : List Cond := .codeWith y_L_insert b_L_insert 4 (Option.some Jvm.ClassFile.FieldType.int) h_L_insert :: goT
abbrev b_S_insert : ByteArray := prog_1_method_6_code
def y_S_insert : MethodName := ⟨R_S, "insert", "(I)I"⟩
def w_S_insert : List Cond := .code y_S_insert b_S_insert 2 (Option.some Jvm.ClassFile.FieldType.int) :: goT
abbrev b_S_requireUp : ByteArray := prog_1_method_27_code
def y_S_requireUp : MethodName := ⟨R_S, "requireUp", "()V"⟩
def w_S_requireUp : List Cond := .code y_S_requireUp b_S_requireUp 1 (Option.none : Option Jvm.ClassFile.FieldType) :: goT
abbrev b_S_requireEmpty : ByteArray := prog_1_method_24_code
def y_S_requireEmpty : MethodName := ⟨R_S, "requireEmpty", "(I)V"⟩
def w_S_requireEmpty : List Cond := .code y_S_requireEmpty b_S_requireEmpty 1 (Option.none : Option Jvm.ClassFile.FieldType) :: goT
abbrev b_S_writeAbout : ByteArray := prog_1_method_51_code
def y_S_writeAbout : MethodName := ⟨R_S, "writeAbout", "(II)V"⟩
def w_S_writeAbout : List Cond := .code y_S_writeAbout b_S_writeAbout 4 (Option.none : Option Jvm.ClassFile.FieldType) :: goT
abbrev b_S_isAuthorised : ByteArray := prog_1_method_37_code
def y_S_isAuthorised : MethodName := ⟨R_S, "isAuthorised", "(I)Z"⟩
def w_S_isAuthorised : List Cond := .code y_S_isAuthorised b_S_isAuthorised 2 (Option.some Jvm.ClassFile.FieldType.boolean) :: goT
abbrev b_S_isValidForIdHolder : ByteArray := prog_1_method_38_code
def y_S_isValidForIdHolder : MethodName := ⟨R_S, "isValidForIdHolder", "(II)Z"⟩
def w_S_isValidForIdHolder : List Cond := .code y_S_isValidForIdHolder b_S_isValidForIdHolder 5 (Option.some Jvm.ClassFile.FieldType.boolean) :: goT
abbrev b_S_isValid : ByteArray := prog_1_method_35_code
def y_S_isValid : MethodName := ⟨R_S, "isValid", "(LSecureEntry$Certificate;)Z"⟩
def w_S_isValid : List Cond := .code y_S_isValid b_S_isValid 2 (Option.some Jvm.ClassFile.FieldType.boolean) :: goT
abbrev b_C_isFitForItsKind : ByteArray := prog_2_method_2_code
def y_C_isFitForItsKind : MethodName := ⟨R_C, "isFitForItsKind", "()Z"⟩
def w_C_isFitForItsKind : List Cond := .code y_C_isFitForItsKind b_C_isFitForItsKind 1 (Option.some Jvm.ClassFile.FieldType.boolean) :: goT
abbrev b_S_allowEntry : ByteArray := prog_1_method_43_code
def y_S_allowEntry : MethodName := ⟨R_S, "allowEntry", "()V"⟩
def w_S_allowEntry : List Cond := .code y_S_allowEntry b_S_allowEntry 1 (Option.none : Option Jvm.ClassFile.FieldType) :: goT
abbrev b_S_isGood : ByteArray := prog_1_method_36_code
def y_S_isGood : MethodName := ⟨R_S, "isGood", "(I)Z"⟩
def w_S_isGood : List Cond := .code y_S_isGood b_S_isGood 2 (Option.some Jvm.ClassFile.FieldType.boolean) :: goT
abbrev b_S_turnAway : ByteArray := prog_1_method_44_code
def y_S_turnAway : MethodName := ⟨R_S, "turnAway", "(I)V"⟩
def w_S_turnAway : List Cond := .code y_S_turnAway b_S_turnAway 2 (Option.none : Option Jvm.ClassFile.FieldType) :: goT
abbrev b_L_finger : ByteArray := method_8_code
def y_L_finger : MethodName := ⟨R_L, "finger", "(LSecureEntry;I[J)I"⟩
def h_L_finger : List (Nat × Nat × Nat × Nat) := [((0 : Nat), (9 : Nat), (12 : Nat), (21 : Nat)), ((0 : Nat), (9 : Nat), (15 : Nat), (13 : Nat))]
def w_L_finger : List Cond := .codeWith y_L_finger b_L_finger 4 (Option.some Jvm.ClassFile.FieldType.int) h_L_finger :: goT
abbrev b_S_finger : ByteArray := prog_1_method_7_code
def y_S_finger : MethodName := ⟨R_S, "finger", "(I)I"⟩
def w_S_finger : List Cond := .code y_S_finger b_S_finger 4 (Option.some Jvm.ClassFile.FieldType.int) :: goT
abbrev b_S_matches : ByteArray := prog_1_method_40_code
def y_S_matches : MethodName := ⟨R_S, "matches", "(II)Z"⟩
def w_S_matches : List Cond := .code y_S_matches b_S_matches 3 (Option.some Jvm.ClassFile.FieldType.boolean) :: goT
abbrev b_I_bitCount : ByteArray := prog_10_method_49_code
def y_I_bitCount : MethodName := ⟨R_I, "bitCount", "(I)I"⟩
def w_I_bitCount : List Cond := .code y_I_bitCount b_I_bitCount 1 (Option.some Jvm.ClassFile.FieldType.int) :: goT
abbrev b_S_authorisationBy : ByteArray := prog_1_method_41_code
def y_S_authorisationBy : MethodName := ⟨R_S, "authorisationBy", "(LSecureEntry$Certificate;)LSecureEntry$Certificate;"⟩
def w_S_authorisationBy : List Cond := .code y_S_authorisationBy b_S_authorisationBy 6 (Option.some (Jvm.ClassFile.FieldType.object "SecureEntry$Certificate")) :: goT
abbrev b_C_clearance : ByteArray := prog_2_method_3_code
def y_C_clearance : MethodName := ⟨R_C, "clearance", "()I"⟩
def w_C_clearance : List Cond := .code y_C_clearance b_C_clearance 1 (Option.some Jvm.ClassFile.FieldType.int) :: goT
abbrev b_C_role : ByteArray := prog_2_method_4_code
def y_C_role : MethodName := ⟨R_C, "role", "()I"⟩
def w_C_role : List Cond := .code y_C_role b_C_role 1 (Option.some Jvm.ClassFile.FieldType.int) :: goT
abbrev b_L_remove : ByteArray := method_9_code
def y_L_remove : MethodName := ⟨R_L, "remove", "(LSecureEntry;[J)I"⟩
def h_L_remove : List (Nat × Nat × Nat × Nat) := [((0 : Nat), (8 : Nat), (11 : Nat), (21 : Nat))]
def w_L_remove : List Cond := .codeWith y_L_remove b_L_remove 3 (Option.some Jvm.ClassFile.FieldType.int) h_L_remove :: goT
abbrev b_S_remove : ByteArray := prog_1_method_8_code
def y_S_remove : MethodName := ⟨R_S, "remove", "()I"⟩
def w_S_remove : List Cond := .code y_S_remove b_S_remove 2 (Option.some Jvm.ClassFile.FieldType.int) :: goT
abbrev b_S_requireFilled : ByteArray := prog_1_method_25_code
def y_S_requireFilled : MethodName := ⟨R_S, "requireFilled", "(I)V"⟩
def w_S_requireFilled : List Cond := .code y_S_requireFilled b_S_requireFilled 1 (Option.none : Option Jvm.ClassFile.FieldType) :: goT
abbrev b_S_unlock : ByteArray := prog_1_method_48_code
def y_S_unlock : MethodName := ⟨R_S, "unlock", "()V"⟩
def w_S_unlock : List Cond := .code y_S_unlock b_S_unlock 1 (Option.none : Option Jvm.ClassFile.FieldType) :: goT
abbrev b_L_logon : ByteArray := method_10_code
def y_L_logon : MethodName := ⟨R_L, "logon", "(LSecureEntry;I[J)I"⟩
def h_L_logon : List (Nat × Nat × Nat × Nat) := [((0 : Nat), (9 : Nat), (12 : Nat), (21 : Nat)), ((0 : Nat), (9 : Nat), (15 : Nat), (19 : Nat))]
def w_L_logon : List Cond := .codeWith y_L_logon b_L_logon 4 (Option.some Jvm.ClassFile.FieldType.int) h_L_logon :: goT
abbrev b_S_logon : ByteArray := prog_1_method_9_code
def y_S_logon : MethodName := ⟨R_S, "logon", "(I)I"⟩
def w_S_logon : List Cond := .code y_S_logon b_S_logon 2 (Option.some Jvm.ClassFile.FieldType.int) :: goT
abbrev b_S_authorisedRole : ByteArray := prog_1_method_39_code
def y_S_authorisedRole : MethodName := ⟨R_S, "authorisedRole", "(I)I"⟩
def w_S_authorisedRole : List Cond := .code y_S_authorisedRole b_S_authorisedRole 3 (Option.some Jvm.ClassFile.FieldType.int) :: goT
abbrev b_L_logoff : ByteArray := method_11_code
def y_L_logoff : MethodName := ⟨R_L, "logoff", "(LSecureEntry;[J)I"⟩
def h_L_logoff : List (Nat × Nat × Nat × Nat) := [((0 : Nat), (8 : Nat), (11 : Nat), (21 : Nat))]
def w_L_logoff : List Cond := .codeWith y_L_logoff b_L_logoff 3 (Option.some Jvm.ClassFile.FieldType.int) h_L_logoff :: goT
abbrev b_S_logoff : ByteArray := prog_1_method_10_code
def y_S_logoff : MethodName := ⟨R_S, "logoff", "()I"⟩
def w_S_logoff : List Cond := .code y_S_logoff b_S_logoff 2 (Option.some Jvm.ClassFile.FieldType.int) :: goT
abbrev b_S_dismissAdministrator : ByteArray := prog_1_method_47_code
def y_S_dismissAdministrator : MethodName := ⟨R_S, "dismissAdministrator", "()V"⟩
def w_S_dismissAdministrator : List Cond := .code y_S_dismissAdministrator b_S_dismissAdministrator 1 (Option.none : Option Jvm.ClassFile.FieldType) :: goT
abbrev b_L_override : ByteArray := method_12_code
def y_L_override : MethodName := ⟨R_L, "override", "(LSecureEntry;[J)I"⟩
def h_L_override : List (Nat × Nat × Nat × Nat) := [((0 : Nat), (8 : Nat), (11 : Nat), (21 : Nat)), ((0 : Nat), (8 : Nat), (14 : Nat), (50 : Nat))]
def w_L_override : List Cond := .codeWith y_L_override b_L_override 3 (Option.some Jvm.ClassFile.FieldType.int) h_L_override :: goT
abbrev b_S_override : ByteArray := prog_1_method_11_code
def y_S_override : MethodName := ⟨R_S, "override", "()I"⟩
def w_S_override : List Cond := .code y_S_override b_S_override 1 (Option.some Jvm.ClassFile.FieldType.int) :: goT
abbrev b_S_requireAdministrator : ByteArray := prog_1_method_28_code
def y_S_requireAdministrator : MethodName := ⟨R_S, "requireAdministrator", "()V"⟩
def w_S_requireAdministrator : List Cond := .code y_S_requireAdministrator b_S_requireAdministrator 1 (Option.none : Option Jvm.ClassFile.FieldType) :: goT
abbrev b_S_requireRole : ByteArray := prog_1_method_29_code
def y_S_requireRole : MethodName := ⟨R_S, "requireRole", "(I)V"⟩
def w_S_requireRole : List Cond := .code y_S_requireRole b_S_requireRole 2 (Option.none : Option Jvm.ClassFile.FieldType) :: goT
abbrev b_L_archive : ByteArray := method_13_code
def y_L_archive : MethodName := ⟨R_L, "archive", "(LSecureEntry;[J)I"⟩
def h_L_archive : List (Nat × Nat × Nat × Nat) := [((0 : Nat), (8 : Nat), (11 : Nat), (21 : Nat)), ((0 : Nat), (8 : Nat), (14 : Nat), (50 : Nat))]
def w_L_archive : List Cond := .codeWith y_L_archive b_L_archive 3 (Option.some Jvm.ClassFile.FieldType.int) h_L_archive :: goT
abbrev b_S_archive : ByteArray := prog_1_method_12_code
def y_S_archive : MethodName := ⟨R_S, "archive", "()I"⟩
def w_S_archive : List Cond := .code y_S_archive b_S_archive 2 (Option.some Jvm.ClassFile.FieldType.int) :: goT
abbrev b_O_clear : ByteArray := prog_3_method_4_code
def y_O_clear : MethodName := ⟨R_O, "clear", "()V"⟩
def w_O_clear : List Cond := .code y_O_clear b_O_clear 1 (Option.none : Option Jvm.ClassFile.FieldType) :: goT
abbrev b_L_configure : ByteArray := method_14_code
def y_L_configure : MethodName := ⟨R_L, "configure", "(LSecureEntry;II[J)I"⟩
def h_L_configure : List (Nat × Nat × Nat × Nat) := [((0 : Nat), (10 : Nat), (13 : Nat), (21 : Nat)), ((0 : Nat), (10 : Nat), (17 : Nat), (50 : Nat)), ((0 : Nat), (10 : Nat), (21 : Nat), (13 : Nat))]
def w_L_configure : List Cond := .codeWith y_L_configure b_L_configure 5 (Option.some Jvm.ClassFile.FieldType.int) h_L_configure :: goT
abbrev b_S_configure : ByteArray := prog_1_method_13_code
def y_S_configure : MethodName := ⟨R_S, "configure", "(II)I"⟩
def w_S_configure : List Cond := .code y_S_configure b_S_configure 4 (Option.some Jvm.ClassFile.FieldType.int) :: goT
abbrev b_L_shutdown : ByteArray := method_15_code
def y_L_shutdown : MethodName := ⟨R_L, "shutdown", "(LSecureEntry;[J)I"⟩
def h_L_shutdown : List (Nat × Nat × Nat × Nat) := [((0 : Nat), (8 : Nat), (11 : Nat), (21 : Nat)), ((0 : Nat), (8 : Nat), (14 : Nat), (50 : Nat))]
def w_L_shutdown : List Cond := .codeWith y_L_shutdown b_L_shutdown 3 (Option.some Jvm.ClassFile.FieldType.int) h_L_shutdown :: goT
abbrev b_S_shutdown : ByteArray := prog_1_method_14_code
def y_S_shutdown : MethodName := ⟨R_S, "shutdown", "()I"⟩
def w_S_shutdown : List Cond := .code y_S_shutdown b_S_shutdown 1 (Option.some Jvm.ClassFile.FieldType.int) :: goT
abbrev b_L_pass : ByteArray := method_16_code
def y_L_pass : MethodName := ⟨R_L, "pass", "(LSecureEntry;I[J)I"⟩
def h_L_pass : List (Nat × Nat × Nat × Nat) := [((0 : Nat), (9 : Nat), (12 : Nat), (13 : Nat))]
def w_L_pass : List Cond := .codeWith y_L_pass b_L_pass 4 (Option.some Jvm.ClassFile.FieldType.int) h_L_pass :: goT
abbrev b_S_pass : ByteArray := prog_1_method_16_code
def y_S_pass : MethodName := ⟨R_S, "pass", "(I)I"⟩
def w_S_pass : List Cond := .code y_S_pass b_S_pass 3 (Option.some Jvm.ClassFile.FieldType.int) :: goT
abbrev b_S_endWaitingInTime : ByteArray := prog_1_method_45_code
def y_S_endWaitingInTime : MethodName := ⟨R_S, "endWaitingInTime", "()V"⟩
def w_S_endWaitingInTime : List Cond := .code y_S_endWaitingInTime b_S_endWaitingInTime 2 (Option.none : Option Jvm.ClassFile.FieldType) :: goT
abbrev b_S_endAdministrationInTime : ByteArray := prog_1_method_46_code
def y_S_endAdministrationInTime : MethodName := ⟨R_S, "endAdministrationInTime", "()V"⟩
def w_S_endAdministrationInTime : List Cond := .code y_S_endAdministrationInTime b_S_endAdministrationInTime 1 (Option.none : Option Jvm.ClassFile.FieldType) :: goT
abbrev b_L_entry : ByteArray := method_17_code
def y_L_entry : MethodName := ⟨R_L, "entry", "(LSecureEntry;II[J)I"⟩
def h_L_entry : List (Nat × Nat × Nat × Nat) := [((0 : Nat), (10 : Nat), (13 : Nat), (19 : Nat)), ((0 : Nat), (10 : Nat), (17 : Nat), (13 : Nat))]
def w_L_entry : List Cond := .codeWith y_L_entry b_L_entry 5 (Option.some Jvm.ClassFile.FieldType.int) h_L_entry :: goT
abbrev b_S_entry : ByteArray := prog_1_method_17_code
def y_S_entry : MethodName := ⟨R_S, "entry", "(II)I"⟩
def w_S_entry : List Cond := .code y_S_entry b_S_entry 3 (Option.some Jvm.ClassFile.FieldType.int) :: goT
abbrev b_L_certificate : ByteArray := method_18_code
def y_L_certificate : MethodName := ⟨R_L, "certificate", "(LSecureEntry;III[J)I"⟩
def h_L_certificate : List (Nat × Nat × Nat × Nat) := [((0 : Nat), (12 : Nat), (15 : Nat), (19 : Nat)), ((0 : Nat), (12 : Nat), (19 : Nat), (13 : Nat))]
def w_L_certificate : List Cond := .codeWith y_L_certificate b_L_certificate 6 (Option.some Jvm.ClassFile.FieldType.int) h_L_certificate :: goT
abbrev b_S_certificate : ByteArray := prog_1_method_18_code
def y_S_certificate : MethodName := ⟨R_S, "certificate", "(III)I"⟩
def w_S_certificate : List Cond := .code y_S_certificate b_S_certificate 5 (Option.some Jvm.ClassFile.FieldType.int) :: goT
abbrev b_S_asNumber : ByteArray := prog_1_method_21_code
def y_S_asNumber : MethodName := ⟨R_S, "asNumber", "(Z)I"⟩
def w_S_asNumber : List Cond := .code y_S_asNumber b_S_asNumber 1 (Option.some Jvm.ClassFile.FieldType.int) :: goT
abbrev b_L_count : ByteArray := method_19_code
def y_L_count : MethodName := ⟨R_L, "count", "(LSecureEntry;I[J)I"⟩
def h_L_count : List (Nat × Nat × Nat × Nat) := [((0 : Nat), (9 : Nat), (12 : Nat), (13 : Nat))]
def w_L_count : List Cond := .codeWith y_L_count b_L_count 4 (Option.some Jvm.ClassFile.FieldType.int) h_L_count :: goT
abbrev b_S_count : ByteArray := prog_1_method_19_code
def y_S_count : MethodName := ⟨R_S, "count", "(I)I"⟩
def w_S_count : List Cond := .code y_S_count b_S_count 2 (Option.some Jvm.ClassFile.FieldType.int) :: goT
abbrev b_S_isAlarmSounding : ByteArray := prog_1_method_50_code
def y_S_isAlarmSounding : MethodName := ⟨R_S, "isAlarmSounding", "()Z"⟩
def w_S_isAlarmSounding : List Cond := .code y_S_isAlarmSounding b_S_isAlarmSounding 1 (Option.some Jvm.ClassFile.FieldType.boolean) :: goT
abbrev b_M_init : ByteArray := prog_5_method_1_code
def y_M_init : MethodName := ⟨R_M, "<init>", "()V"⟩
def w_M_init : List Cond := .code y_M_init b_M_init 1 (Option.none : Option Jvm.ClassFile.FieldType) :: goT
abbrev b_M_thrown : ByteArray := prog_5_method_2_code
def y_M_thrown : MethodName := ⟨R_M, "thrown", "()I"⟩
def w_M_thrown : List Cond := .code y_M_thrown b_M_thrown 1 (Option.some Jvm.ClassFile.FieldType.int) :: goT
abbrev b_M_signature : ByteArray := prog_5_method_7_code
def y_M_signature : MethodName := ⟨R_M, "signature", "(IIIIII)I"⟩
def w_M_signature : List Cond := .code y_M_signature b_M_signature 7 (Option.some Jvm.ClassFile.FieldType.int) :: goT
abbrev b_M_ranges : ByteArray := prog_5_method_5_code
def y_M_ranges : MethodName := ⟨R_M, "ranges", "(IIIIII)Z"⟩
def w_M_ranges : List Cond := .code y_M_ranges b_M_ranges 6 (Option.some Jvm.ClassFile.FieldType.boolean) :: goT
abbrev b_M_in : ByteArray := prog_5_method_4_code
def y_M_in : MethodName := ⟨R_M, "in", "(III)Z"⟩
def w_M_in : List Cond := .code y_M_in b_M_in 3 (Option.some Jvm.ClassFile.FieldType.boolean) :: goT
abbrev b_M_right : ByteArray := prog_5_method_6_code
def y_M_right : MethodName := ⟨R_M, "right", "(IIIIII)I"⟩
def w_M_right : List Cond := .code y_M_right b_M_right 9 (Option.some Jvm.ClassFile.FieldType.int) :: goT
abbrev b_M_raise : ByteArray := prog_5_method_3_code
def y_M_raise : MethodName := ⟨R_M, "raise", "(I)I"⟩
def w_M_raise : List Cond := .code y_M_raise b_M_raise 2 (Option.some Jvm.ClassFile.FieldType.int) :: goT
abbrev b_M_certify : ByteArray := prog_5_method_9_code
def y_M_certify : MethodName := ⟨R_M, "certify", "(IIIIIIII)I"⟩
def w_M_certify : List Cond := .code y_M_certify b_M_certify 11 (Option.some Jvm.ClassFile.FieldType.int) :: goT
abbrev b_M_read : ByteArray := prog_5_method_8_code
def y_M_read : MethodName := ⟨R_M, "read", "(I)Z"⟩
def w_M_read : List Cond := .code y_M_read b_M_read 2 (Option.some Jvm.ClassFile.FieldType.boolean) :: goT
abbrev b_M_put : ByteArray := prog_5_method_10_code
def y_M_put : MethodName := ⟨R_M, "put", "(IIIIII)V"⟩
def w_M_put : List Cond := .code y_M_put b_M_put 7 (Option.none : Option Jvm.ClassFile.FieldType) :: goT
abbrev b_M_enrol : ByteArray := prog_5_method_14_code
def y_M_enrol : MethodName := ⟨R_M, "enrol", "(II)I"⟩
def w_M_enrol : List Cond := .code y_M_enrol b_M_enrol 4 (Option.some Jvm.ClassFile.FieldType.int) :: goT
abbrev b_M_start : ByteArray := prog_5_method_17_code
def y_M_start : MethodName := ⟨R_M, "start", "()I"⟩
def w_M_start : List Cond := .code y_M_start b_M_start 3 (Option.some Jvm.ClassFile.FieldType.int) :: goT
abbrev b_M_log : ByteArray := prog_5_method_15_code
def y_M_log : MethodName := ⟨R_M, "log", "(II)V"⟩
def w_M_log : List Cond := .code y_M_log b_M_log 4 (Option.none : Option Jvm.ClassFile.FieldType) :: goT
abbrev b_M_insert : ByteArray := prog_5_method_19_code
def y_M_insert : MethodName := ⟨R_M, "insert", "(I)I"⟩
def w_M_insert : List Cond := .code y_M_insert b_M_insert 2 (Option.some Jvm.ClassFile.FieldType.int) :: goT
abbrev b_M_note : ByteArray := prog_5_method_16_code
def y_M_note : MethodName := ⟨R_M, "note", "(II)V"⟩
def w_M_note : List Cond := .code y_M_note b_M_note 3 (Option.none : Option Jvm.ClassFile.FieldType) :: goT
abbrev b_M_authorised : ByteArray := prog_5_method_13_code
def y_M_authorised : MethodName := ⟨R_M, "authorised", "(I)Z"⟩
def w_M_authorised : List Cond := .code y_M_authorised b_M_authorised 2 (Option.some Jvm.ClassFile.FieldType.boolean) :: goT
abbrev b_M_valid : ByteArray := prog_5_method_11_code
def y_M_valid : MethodName := ⟨R_M, "valid", "(I)Z"⟩
def w_M_valid : List Cond := .code y_M_valid b_M_valid 3 (Option.some Jvm.ClassFile.FieldType.boolean) :: goT
abbrev b_M_become : ByteArray := prog_5_method_18_code
def y_M_become : MethodName := ⟨R_M, "become", "(I)V"⟩
def w_M_become : List Cond := .code y_M_become b_M_become 2 (Option.none : Option Jvm.ClassFile.FieldType) :: goT
abbrev b_M_good : ByteArray := prog_5_method_12_code
def y_M_good : MethodName := ⟨R_M, "good", "(I)Z"⟩
def w_M_good : List Cond := .code y_M_good b_M_good 2 (Option.some Jvm.ClassFile.FieldType.boolean) :: goT
abbrev b_M_finger : ByteArray := prog_5_method_21_code
def y_M_finger : MethodName := ⟨R_M, "finger", "(I)I"⟩
def w_M_finger : List Cond := .code y_M_finger b_M_finger 5 (Option.some Jvm.ClassFile.FieldType.int) :: goT
abbrev b_M_differing : ByteArray := prog_5_method_20_code
def y_M_differing : MethodName := ⟨R_M, "differing", "(II)I"⟩
def w_M_differing : List Cond := .code y_M_differing b_M_differing 4 (Option.some Jvm.ClassFile.FieldType.int) :: goT
abbrev b_M_remove : ByteArray := prog_5_method_23_code
def y_M_remove : MethodName := ⟨R_M, "remove", "()I"⟩
def w_M_remove : List Cond := .code y_M_remove b_M_remove 2 (Option.some Jvm.ClassFile.FieldType.int) :: goT
abbrev b_M_unlock : ByteArray := prog_5_method_22_code
def y_M_unlock : MethodName := ⟨R_M, "unlock", "()V"⟩
def w_M_unlock : List Cond := .code y_M_unlock b_M_unlock 1 (Option.none : Option Jvm.ClassFile.FieldType) :: goT
abbrev b_M_logon : ByteArray := prog_5_method_24_code
def y_M_logon : MethodName := ⟨R_M, "logon", "(I)I"⟩
def w_M_logon : List Cond := .code y_M_logon b_M_logon 2 (Option.some Jvm.ClassFile.FieldType.int) :: goT
abbrev b_M_logoff : ByteArray := prog_5_method_25_code
def y_M_logoff : MethodName := ⟨R_M, "logoff", "()I"⟩
def w_M_logoff : List Cond := .code y_M_logoff b_M_logoff 2 (Option.some Jvm.ClassFile.FieldType.int) :: goT
abbrev b_M_override : ByteArray := prog_5_method_27_code
def y_M_override : MethodName := ⟨R_M, "override", "()I"⟩
def w_M_override : List Cond := .code y_M_override b_M_override 1 (Option.some Jvm.ClassFile.FieldType.int) :: goT
abbrev b_M_refusal : ByteArray := prog_5_method_26_code
def y_M_refusal : MethodName := ⟨R_M, "refusal", "(I)I"⟩
def w_M_refusal : List Cond := .code y_M_refusal b_M_refusal 2 (Option.some Jvm.ClassFile.FieldType.int) :: goT
abbrev b_M_archive : ByteArray := prog_5_method_28_code
def y_M_archive : MethodName := ⟨R_M, "archive", "()I"⟩
def w_M_archive : List Cond := .code y_M_archive b_M_archive 2 (Option.some Jvm.ClassFile.FieldType.int) :: goT
abbrev b_M_configure : ByteArray := prog_5_method_29_code
def y_M_configure : MethodName := ⟨R_M, "configure", "(II)I"⟩
def w_M_configure : List Cond := .code y_M_configure b_M_configure 4 (Option.some Jvm.ClassFile.FieldType.int) :: goT
abbrev b_M_shutdown : ByteArray := prog_5_method_30_code
def y_M_shutdown : MethodName := ⟨R_M, "shutdown", "()I"⟩
def w_M_shutdown : List Cond := .code y_M_shutdown b_M_shutdown 1 (Option.some Jvm.ClassFile.FieldType.int) :: goT
abbrev b_M_door : ByteArray := prog_5_method_31_code
def y_M_door : MethodName := ⟨R_M, "door", "(Z)I"⟩
def w_M_door : List Cond := .code y_M_door b_M_door 2 (Option.some Jvm.ClassFile.FieldType.int) :: goT
abbrev b_M_pass : ByteArray := prog_5_method_33_code
def y_M_pass : MethodName := ⟨R_M, "pass", "(I)I"⟩
def w_M_pass : List Cond := .code y_M_pass b_M_pass 3 (Option.some Jvm.ClassFile.FieldType.int) :: goT
abbrev b_M_second : ByteArray := prog_5_method_32_code
def y_M_second : MethodName := ⟨R_M, "second", "()V"⟩
def w_M_second : List Cond := .code y_M_second b_M_second 1 (Option.none : Option Jvm.ClassFile.FieldType) :: goT
abbrev b_M_entry : ByteArray := prog_5_method_34_code
def y_M_entry : MethodName := ⟨R_M, "entry", "(II)I"⟩
def w_M_entry : List Cond := .code y_M_entry b_M_entry 3 (Option.some Jvm.ClassFile.FieldType.int) :: goT
abbrev b_M_certificate : ByteArray := prog_5_method_35_code
def y_M_certificate : MethodName := ⟨R_M, "certificate", "(III)I"⟩
def w_M_certificate : List Cond := .code y_M_certificate b_M_certificate 5 (Option.some Jvm.ClassFile.FieldType.int) :: goT
abbrev b_M_count : ByteArray := prog_5_method_36_code
def y_M_count : MethodName := ⟨R_M, "count", "(I)I"⟩
def w_M_count : List Cond := .code y_M_count b_M_count 2 (Option.some Jvm.ClassFile.FieldType.int) :: goT
end NAMES
end
section
section DEC
theorem d_S_init_0 : decode b_S_init 0 = .ok (.aload_n 0, 1) := by decide +kernel
theorem d_S_init_1 : decode b_S_init 1 = .ok (.invokespecial 1, 3) := by decide +kernel
theorem d_S_init_4 : decode b_S_init 4 = .ok (.aload_n 0, 1) := by decide +kernel
theorem d_S_init_5 : decode b_S_init 5 = .ok (.getstatic 7, 3) := by decide +kernel
theorem d_S_init_8 : decode b_S_init 8 = .ok (.invokevirtual 13, 3) := by decide +kernel
theorem d_S_init_11 : decode b_S_init 11 = .ok (.checkcast 14, 3) := by decide +kernel
theorem d_S_init_14 : decode b_S_init 14 = .ok (.putfield 18, 3) := by decide +kernel
theorem d_S_init_17 : decode b_S_init 17 = .ok (.aload_n 0, 1) := by decide +kernel
theorem d_S_init_18 : decode b_S_init 18 = .ok (.bipush 7, 2) := by decide +kernel
theorem d_S_init_20 : decode b_S_init 20 = .ok (.newarray .int, 2) := by decide +kernel
theorem d_S_init_22 : decode b_S_init 22 = .ok (.putfield 21, 3) := by decide +kernel
theorem d_S_init_25 : decode b_S_init 25 = .ok (.aload_n 0, 1) := by decide +kernel
theorem d_S_init_26 : decode b_S_init 26 = .ok (.getfield 21, 3) := by decide +kernel
theorem d_S_init_29 : decode b_S_init 29 = .ok (.bipush 6, 2) := by decide +kernel
theorem d_S_init_31 : decode b_S_init 31 = .ok (.sipush 4711, 3) := by decide +kernel
theorem d_S_init_34 : decode b_S_init 34 = .ok (.iastore, 1) := by decide +kernel
theorem d_S_init_35 : decode b_S_init 35 = .ok (.aload_n 0, 1) := by decide +kernel
theorem d_S_init_36 : decode b_S_init 36 = .ok (.bipush 24, 2) := by decide +kernel
theorem d_S_init_38 : decode b_S_init 38 = .ok (.anewarray 24, 3) := by decide +kernel
theorem d_S_init_41 : decode b_S_init 41 = .ok (.putfield 26, 3) := by decide +kernel
theorem d_S_init_44 : decode b_S_init 44 = .ok (.aload_n 0, 1) := by decide +kernel
theorem d_S_init_45 : decode b_S_init 45 = .ok (.new 30, 3) := by decide +kernel
theorem d_S_init_48 : decode b_S_init 48 = .ok (.dup, 1) := by decide +kernel
theorem d_S_init_49 : decode b_S_init 49 = .ok (.invokespecial 32, 3) := by decide +kernel
theorem d_S_init_52 : decode b_S_init 52 = .ok (.putfield 33, 3) := by decide +kernel
theorem d_S_init_55 : decode b_S_init 55 = .ok (.aload_n 0, 1) := by decide +kernel
theorem d_S_init_56 : decode b_S_init 56 = .ok (.iconst 0, 1) := by decide +kernel
theorem d_S_init_57 : decode b_S_init 57 = .ok (.putfield 37, 3) := by decide +kernel
theorem d_S_init_60 : decode b_S_init 60 = .ok (.aload_n 0, 1) := by decide +kernel
theorem d_S_init_61 : decode b_S_init 61 = .ok (.iconst (-1), 1) := by decide +kernel
theorem d_S_init_62 : decode b_S_init 62 = .ok (.putfield 41, 3) := by decide +kernel
theorem d_S_init_65 : decode b_S_init 65 = .ok (.aload_n 0, 1) := by decide +kernel
theorem d_S_init_66 : decode b_S_init 66 = .ok (.iconst (-1), 1) := by decide +kernel
theorem d_S_init_67 : decode b_S_init 67 = .ok (.putfield 44, 3) := by decide +kernel
theorem d_S_init_70 : decode b_S_init 70 = .ok (.aload_n 0, 1) := by decide +kernel
theorem d_S_init_71 : decode b_S_init 71 = .ok (.iconst 0, 1) := by decide +kernel
theorem d_S_init_72 : decode b_S_init 72 = .ok (.putfield 47, 3) := by decide +kernel
theorem d_S_init_75 : decode b_S_init 75 = .ok (.return_, 1) := by decide +kernel
theorem d_S_signature_0 : decode b_S_signature 0 = .ok (.iload_n 1, 1) := by decide +kernel
theorem d_S_signature_1 : decode b_S_signature 1 = .ok (.iload_n 2, 1) := by decide +kernel
theorem d_S_signature_2 : decode b_S_signature 2 = .ok (.iload_n 3, 1) := by decide +kernel
theorem d_S_signature_3 : decode b_S_signature 3 = .ok (.iload 4, 2) := by decide +kernel
theorem d_S_signature_5 : decode b_S_signature 5 = .ok (.iload 5, 2) := by decide +kernel
theorem d_S_signature_7 : decode b_S_signature 7 = .ok (.iload 6, 2) := by decide +kernel
theorem d_S_signature_9 : decode b_S_signature 9 = .ok (.invokestatic 50, 3) := by decide +kernel
theorem d_S_signature_12 : decode b_S_signature 12 = .ok (.ifCond .ne 11, 3) := by decide +kernel
theorem d_S_signature_15 : decode b_S_signature 15 = .ok (.new 54, 3) := by decide +kernel
theorem d_S_signature_18 : decode b_S_signature 18 = .ok (.dup, 1) := by decide +kernel
theorem d_S_signature_19 : decode b_S_signature 19 = .ok (.invokespecial 56, 3) := by decide +kernel
theorem d_S_signature_22 : decode b_S_signature 22 = .ok (.athrow, 1) := by decide +kernel
theorem d_S_signature_23 : decode b_S_signature 23 = .ok (.aload_n 0, 1) := by decide +kernel
theorem d_S_signature_24 : decode b_S_signature 24 = .ok (.iload_n 2, 1) := by decide +kernel
theorem d_S_signature_25 : decode b_S_signature 25 = .ok (.invokevirtual 57, 3) := by decide +kernel
theorem d_S_signature_28 : decode b_S_signature 28 = .ok (.ifCond .eq 19, 3) := by decide +kernel
theorem d_S_signature_31 : decode b_S_signature 31 = .ok (.aload_n 0, 1) := by decide +kernel
theorem d_S_signature_32 : decode b_S_signature 32 = .ok (.iload_n 1, 1) := by decide +kernel
theorem d_S_signature_33 : decode b_S_signature 33 = .ok (.iload_n 2, 1) := by decide +kernel
theorem d_S_signature_34 : decode b_S_signature 34 = .ok (.iload_n 3, 1) := by decide +kernel
theorem d_S_signature_35 : decode b_S_signature 35 = .ok (.iload 4, 2) := by decide +kernel
theorem d_S_signature_37 : decode b_S_signature 37 = .ok (.iload 5, 2) := by decide +kernel
theorem d_S_signature_39 : decode b_S_signature 39 = .ok (.iload 6, 2) := by decide +kernel
theorem d_S_signature_41 : decode b_S_signature 41 = .ok (.invokevirtual 61, 3) := by decide +kernel
theorem d_S_signature_44 : decode b_S_signature 44 = .ok (.goto 4, 3) := by decide +kernel
theorem d_S_signature_47 : decode b_S_signature 47 = .ok (.iconst 0, 1) := by decide +kernel
theorem d_S_signature_48 : decode b_S_signature 48 = .ok (.ireturn, 1) := by decide +kernel
theorem d_S_certify_0 : decode b_S_certify 0 = .ok (.iload_n 1, 1) := by decide +kernel
theorem d_S_certify_1 : decode b_S_certify 1 = .ok (.invokestatic 65, 3) := by decide +kernel
theorem d_S_certify_4 : decode b_S_certify 4 = .ok (.iload_n 2, 1) := by decide +kernel
theorem d_S_certify_5 : decode b_S_certify 5 = .ok (.iload_n 3, 1) := by decide +kernel
theorem d_S_certify_6 : decode b_S_certify 6 = .ok (.iload 4, 2) := by decide +kernel
theorem d_S_certify_8 : decode b_S_certify 8 = .ok (.iload 5, 2) := by decide +kernel
theorem d_S_certify_10 : decode b_S_certify 10 = .ok (.iload 6, 2) := by decide +kernel
theorem d_S_certify_12 : decode b_S_certify 12 = .ok (.iload 7, 2) := by decide +kernel
theorem d_S_certify_14 : decode b_S_certify 14 = .ok (.invokestatic 50, 3) := by decide +kernel
theorem d_S_certify_17 : decode b_S_certify 17 = .ok (.ifCond .eq 15, 3) := by decide +kernel
theorem d_S_certify_20 : decode b_S_certify 20 = .ok (.iload 8, 2) := by decide +kernel
theorem d_S_certify_22 : decode b_S_certify 22 = .ok (.iconst 0, 1) := by decide +kernel
theorem d_S_certify_23 : decode b_S_certify 23 = .ok (.sipush 9972, 3) := by decide +kernel
theorem d_S_certify_26 : decode b_S_certify 26 = .ok (.invokestatic 69, 3) := by decide +kernel
theorem d_S_certify_29 : decode b_S_certify 29 = .ok (.ifCond .ne 11, 3) := by decide +kernel
theorem d_S_certify_32 : decode b_S_certify 32 = .ok (.new 54, 3) := by decide +kernel
theorem d_S_certify_35 : decode b_S_certify 35 = .ok (.dup, 1) := by decide +kernel
theorem d_S_certify_36 : decode b_S_certify 36 = .ok (.invokespecial 56, 3) := by decide +kernel
theorem d_S_certify_39 : decode b_S_certify 39 = .ok (.athrow, 1) := by decide +kernel
theorem d_S_certify_40 : decode b_S_certify 40 = .ok (.aload_n 0, 1) := by decide +kernel
theorem d_S_certify_41 : decode b_S_certify 41 = .ok (.iload_n 1, 1) := by decide +kernel
theorem d_S_certify_42 : decode b_S_certify 42 = .ok (.invokevirtual 73, 3) := by decide +kernel
theorem d_S_certify_45 : decode b_S_certify 45 = .ok (.aload_n 0, 1) := by decide +kernel
theorem d_S_certify_46 : decode b_S_certify 46 = .ok (.iload_n 1, 1) := by decide +kernel
theorem d_S_certify_47 : decode b_S_certify 47 = .ok (.iload_n 2, 1) := by decide +kernel
theorem d_S_certify_48 : decode b_S_certify 48 = .ok (.invokevirtual 76, 3) := by decide +kernel
theorem d_S_certify_51 : decode b_S_certify 51 = .ok (.ifnonnull 7, 3) := by decide +kernel
theorem d_S_certify_54 : decode b_S_certify 54 = .ok (.iconst 1, 1) := by decide +kernel
theorem d_S_certify_55 : decode b_S_certify 55 = .ok (.goto 4, 3) := by decide +kernel
theorem d_S_certify_58 : decode b_S_certify 58 = .ok (.iconst 0, 1) := by decide +kernel
theorem d_S_certify_59 : decode b_S_certify 59 = .ok (.istore 9, 2) := by decide +kernel
theorem d_S_certify_61 : decode b_S_certify 61 = .ok (.aload_n 0, 1) := by decide +kernel
theorem d_S_certify_62 : decode b_S_certify 62 = .ok (.iload_n 1, 1) := by decide +kernel
theorem d_S_certify_63 : decode b_S_certify 63 = .ok (.new 24, 3) := by decide +kernel
theorem d_S_certify_66 : decode b_S_certify 66 = .ok (.dup, 1) := by decide +kernel
theorem d_S_certify_67 : decode b_S_certify 67 = .ok (.iload_n 2, 1) := by decide +kernel
theorem d_S_certify_68 : decode b_S_certify 68 = .ok (.iload_n 3, 1) := by decide +kernel
theorem d_S_certify_69 : decode b_S_certify 69 = .ok (.iload 4, 2) := by decide +kernel
theorem d_S_certify_71 : decode b_S_certify 71 = .ok (.iload 5, 2) := by decide +kernel
theorem d_S_certify_73 : decode b_S_certify 73 = .ok (.iload 6, 2) := by decide +kernel
theorem d_S_certify_75 : decode b_S_certify 75 = .ok (.iload 7, 2) := by decide +kernel
theorem d_S_certify_77 : decode b_S_certify 77 = .ok (.iload 8, 2) := by decide +kernel
theorem d_S_certify_79 : decode b_S_certify 79 = .ok (.invokespecial 80, 3) := by decide +kernel
theorem d_S_certify_82 : decode b_S_certify 82 = .ok (.invokevirtual 83, 3) := by decide +kernel
theorem d_S_certify_85 : decode b_S_certify 85 = .ok (.iload 9, 2) := by decide +kernel
theorem d_S_certify_87 : decode b_S_certify 87 = .ok (.ifCond .eq 7, 3) := by decide +kernel
theorem d_S_certify_90 : decode b_S_certify 90 = .ok (.iconst 1, 1) := by decide +kernel
theorem d_S_certify_91 : decode b_S_certify 91 = .ok (.goto 4, 3) := by decide +kernel
theorem d_S_certify_94 : decode b_S_certify 94 = .ok (.iconst 0, 1) := by decide +kernel
theorem d_S_certify_95 : decode b_S_certify 95 = .ok (.ireturn, 1) := by decide +kernel
theorem d_S_enrol_0 : decode b_S_enrol 0 = .ok (.iload_n 1, 1) := by decide +kernel
theorem d_S_enrol_1 : decode b_S_enrol 1 = .ok (.iconst 0, 1) := by decide +kernel
theorem d_S_enrol_2 : decode b_S_enrol 2 = .ok (.iconst 5, 1) := by decide +kernel
theorem d_S_enrol_3 : decode b_S_enrol 3 = .ok (.invokestatic 69, 3) := by decide +kernel
theorem d_S_enrol_6 : decode b_S_enrol 6 = .ok (.ifCond .eq 14, 3) := by decide +kernel
theorem d_S_enrol_9 : decode b_S_enrol 9 = .ok (.iload_n 2, 1) := by decide +kernel
theorem d_S_enrol_10 : decode b_S_enrol 10 = .ok (.iconst 0, 1) := by decide +kernel
theorem d_S_enrol_11 : decode b_S_enrol 11 = .ok (.sipush 9972, 3) := by decide +kernel
theorem d_S_enrol_14 : decode b_S_enrol 14 = .ok (.invokestatic 69, 3) := by decide +kernel
theorem d_S_enrol_17 : decode b_S_enrol 17 = .ok (.ifCond .ne 11, 3) := by decide +kernel
theorem d_S_enrol_20 : decode b_S_enrol 20 = .ok (.new 54, 3) := by decide +kernel
theorem d_S_enrol_23 : decode b_S_enrol 23 = .ok (.dup, 1) := by decide +kernel
theorem d_S_enrol_24 : decode b_S_enrol 24 = .ok (.invokespecial 56, 3) := by decide +kernel
theorem d_S_enrol_27 : decode b_S_enrol 27 = .ok (.athrow, 1) := by decide +kernel
theorem d_S_enrol_28 : decode b_S_enrol 28 = .ok (.aload_n 0, 1) := by decide +kernel
theorem d_S_enrol_29 : decode b_S_enrol 29 = .ok (.getfield 87, 3) := by decide +kernel
theorem d_S_enrol_32 : decode b_S_enrol 32 = .ok (.ifCond .eq 11, 3) := by decide +kernel
theorem d_S_enrol_35 : decode b_S_enrol 35 = .ok (.new 91, 3) := by decide +kernel
theorem d_S_enrol_38 : decode b_S_enrol 38 = .ok (.dup, 1) := by decide +kernel
theorem d_S_enrol_39 : decode b_S_enrol 39 = .ok (.invokespecial 93, 3) := by decide +kernel
theorem d_S_enrol_42 : decode b_S_enrol 42 = .ok (.athrow, 1) := by decide +kernel
theorem d_S_enrol_43 : decode b_S_enrol 43 = .ok (.aload_n 0, 1) := by decide +kernel
theorem d_S_enrol_44 : decode b_S_enrol 44 = .ok (.getfield 21, 3) := by decide +kernel
theorem d_S_enrol_47 : decode b_S_enrol 47 = .ok (.iload_n 1, 1) := by decide +kernel
theorem d_S_enrol_48 : decode b_S_enrol 48 = .ok (.iaload, 1) := by decide +kernel
theorem d_S_enrol_49 : decode b_S_enrol 49 = .ok (.istore_n 3, 1) := by decide +kernel
theorem d_S_enrol_50 : decode b_S_enrol 50 = .ok (.aload_n 0, 1) := by decide +kernel
theorem d_S_enrol_51 : decode b_S_enrol 51 = .ok (.getfield 21, 3) := by decide +kernel
theorem d_S_enrol_54 : decode b_S_enrol 54 = .ok (.iload_n 1, 1) := by decide +kernel
theorem d_S_enrol_55 : decode b_S_enrol 55 = .ok (.iload_n 2, 1) := by decide +kernel
theorem d_S_enrol_56 : decode b_S_enrol 56 = .ok (.iastore, 1) := by decide +kernel
theorem d_S_enrol_57 : decode b_S_enrol 57 = .ok (.iload_n 3, 1) := by decide +kernel
theorem d_S_enrol_58 : decode b_S_enrol 58 = .ok (.ireturn, 1) := by decide +kernel
theorem d_S_start_0 : decode b_S_start 0 = .ok (.aload_n 0, 1) := by decide +kernel
theorem d_S_start_1 : decode b_S_start 1 = .ok (.invokevirtual 94, 3) := by decide +kernel
theorem d_S_start_4 : decode b_S_start 4 = .ok (.istore_n 1, 1) := by decide +kernel
theorem d_S_start_5 : decode b_S_start 5 = .ok (.aload_n 0, 1) := by decide +kernel
theorem d_S_start_6 : decode b_S_start 6 = .ok (.getfield 87, 3) := by decide +kernel
theorem d_S_start_9 : decode b_S_start 9 = .ok (.ifCond .ne 23, 3) := by decide +kernel
theorem d_S_start_12 : decode b_S_start 12 = .ok (.iload_n 1, 1) := by decide +kernel
theorem d_S_start_13 : decode b_S_start 13 = .ok (.ifCond .eq 19, 3) := by decide +kernel
theorem d_S_start_16 : decode b_S_start 16 = .ok (.aload_n 0, 1) := by decide +kernel
theorem d_S_start_17 : decode b_S_start 17 = .ok (.getfield 41, 3) := by decide +kernel
theorem d_S_start_20 : decode b_S_start 20 = .ok (.iconst (-1), 1) := by decide +kernel
theorem d_S_start_21 : decode b_S_start 21 = .ok (.if_icmp .ne 11, 3) := by decide +kernel
theorem d_S_start_24 : decode b_S_start 24 = .ok (.aload_n 0, 1) := by decide +kernel
theorem d_S_start_25 : decode b_S_start 25 = .ok (.getfield 44, 3) := by decide +kernel
theorem d_S_start_28 : decode b_S_start 28 = .ok (.iconst (-1), 1) := by decide +kernel
theorem d_S_start_29 : decode b_S_start 29 = .ok (.if_icmp .eq 11, 3) := by decide +kernel
theorem d_S_start_32 : decode b_S_start 32 = .ok (.new 91, 3) := by decide +kernel
theorem d_S_start_35 : decode b_S_start 35 = .ok (.dup, 1) := by decide +kernel
theorem d_S_start_36 : decode b_S_start 36 = .ok (.invokespecial 93, 3) := by decide +kernel
theorem d_S_start_39 : decode b_S_start 39 = .ok (.athrow, 1) := by decide +kernel
theorem d_S_start_40 : decode b_S_start 40 = .ok (.aload_n 0, 1) := by decide +kernel
theorem d_S_start_41 : decode b_S_start 41 = .ok (.iconst 1, 1) := by decide +kernel
theorem d_S_start_42 : decode b_S_start 42 = .ok (.putfield 87, 3) := by decide +kernel
theorem d_S_start_45 : decode b_S_start 45 = .ok (.aload_n 0, 1) := by decide +kernel
theorem d_S_start_46 : decode b_S_start 46 = .ok (.iconst 0, 1) := by decide +kernel
theorem d_S_start_47 : decode b_S_start 47 = .ok (.invokevirtual 98, 3) := by decide +kernel
theorem d_S_start_50 : decode b_S_start 50 = .ok (.aload_n 0, 1) := by decide +kernel
theorem d_S_start_51 : decode b_S_start 51 = .ok (.iconst 0, 1) := by decide +kernel
theorem d_S_start_52 : decode b_S_start 52 = .ok (.putfield 47, 3) := by decide +kernel
theorem d_S_start_55 : decode b_S_start 55 = .ok (.aload_n 0, 1) := by decide +kernel
theorem d_S_start_56 : decode b_S_start 56 = .ok (.getfield 33, 3) := by decide +kernel
theorem d_S_start_59 : decode b_S_start 59 = .ok (.iconst 1, 1) := by decide +kernel
theorem d_S_start_60 : decode b_S_start 60 = .ok (.aload_n 0, 1) := by decide +kernel
theorem d_S_start_61 : decode b_S_start 61 = .ok (.getfield 101, 3) := by decide +kernel
theorem d_S_start_64 : decode b_S_start 64 = .ok (.iconst (-1), 1) := by decide +kernel
theorem d_S_start_65 : decode b_S_start 65 = .ok (.invokevirtual 104, 3) := by decide +kernel
theorem d_S_start_68 : decode b_S_start 68 = .ok (.iload_n 1, 1) := by decide +kernel
theorem d_S_start_69 : decode b_S_start 69 = .ok (.ireturn, 1) := by decide +kernel
theorem d_S_insert_0 : decode b_S_insert 0 = .ok (.aload_n 0, 1) := by decide +kernel
theorem d_S_insert_1 : decode b_S_insert 1 = .ok (.invokevirtual 108, 3) := by decide +kernel
theorem d_S_insert_4 : decode b_S_insert 4 = .ok (.iload_n 1, 1) := by decide +kernel
theorem d_S_insert_5 : decode b_S_insert 5 = .ok (.invokestatic 65, 3) := by decide +kernel
theorem d_S_insert_8 : decode b_S_insert 8 = .ok (.aload_n 0, 1) := by decide +kernel
theorem d_S_insert_9 : decode b_S_insert 9 = .ok (.iload_n 1, 1) := by decide +kernel
theorem d_S_insert_10 : decode b_S_insert 10 = .ok (.invokevirtual 73, 3) := by decide +kernel
theorem d_S_insert_13 : decode b_S_insert 13 = .ok (.aload_n 0, 1) := by decide +kernel
theorem d_S_insert_14 : decode b_S_insert 14 = .ok (.getfield 41, 3) := by decide +kernel
theorem d_S_insert_17 : decode b_S_insert 17 = .ok (.invokestatic 111, 3) := by decide +kernel
theorem d_S_insert_20 : decode b_S_insert 20 = .ok (.aload_n 0, 1) := by decide +kernel
theorem d_S_insert_21 : decode b_S_insert 21 = .ok (.iload_n 1, 1) := by decide +kernel
theorem d_S_insert_22 : decode b_S_insert 22 = .ok (.putfield 41, 3) := by decide +kernel
theorem d_S_insert_25 : decode b_S_insert 25 = .ok (.aload_n 0, 1) := by decide +kernel
theorem d_S_insert_26 : decode b_S_insert 26 = .ok (.iload_n 1, 1) := by decide +kernel
theorem d_S_insert_27 : decode b_S_insert 27 = .ok (.iconst 2, 1) := by decide +kernel
theorem d_S_insert_28 : decode b_S_insert 28 = .ok (.invokevirtual 114, 3) := by decide +kernel
theorem d_S_insert_31 : decode b_S_insert 31 = .ok (.aload_n 0, 1) := by decide +kernel
theorem d_S_insert_32 : decode b_S_insert 32 = .ok (.iload_n 1, 1) := by decide +kernel
theorem d_S_insert_33 : decode b_S_insert 33 = .ok (.invokevirtual 118, 3) := by decide +kernel
theorem d_S_insert_36 : decode b_S_insert 36 = .ok (.ifCond .eq 10, 3) := by decide +kernel
theorem d_S_insert_39 : decode b_S_insert 39 = .ok (.aload_n 0, 1) := by decide +kernel
theorem d_S_insert_40 : decode b_S_insert 40 = .ok (.invokevirtual 121, 3) := by decide +kernel
theorem d_S_insert_43 : decode b_S_insert 43 = .ok (.goto 24, 3) := by decide +kernel
theorem d_S_insert_46 : decode b_S_insert 46 = .ok (.aload_n 0, 1) := by decide +kernel
theorem d_S_insert_47 : decode b_S_insert 47 = .ok (.iload_n 1, 1) := by decide +kernel
theorem d_S_insert_48 : decode b_S_insert 48 = .ok (.invokevirtual 124, 3) := by decide +kernel
theorem d_S_insert_51 : decode b_S_insert 51 = .ok (.ifCond .eq 11, 3) := by decide +kernel
theorem d_S_insert_54 : decode b_S_insert 54 = .ok (.aload_n 0, 1) := by decide +kernel
theorem d_S_insert_55 : decode b_S_insert 55 = .ok (.iconst 1, 1) := by decide +kernel
theorem d_S_insert_56 : decode b_S_insert 56 = .ok (.invokevirtual 98, 3) := by decide +kernel
theorem d_S_insert_59 : decode b_S_insert 59 = .ok (.goto 8, 3) := by decide +kernel
theorem d_S_insert_62 : decode b_S_insert 62 = .ok (.aload_n 0, 1) := by decide +kernel
theorem d_S_insert_63 : decode b_S_insert 63 = .ok (.iconst 3, 1) := by decide +kernel
theorem d_S_insert_64 : decode b_S_insert 64 = .ok (.invokevirtual 127, 3) := by decide +kernel
theorem d_S_insert_67 : decode b_S_insert 67 = .ok (.aload_n 0, 1) := by decide +kernel
theorem d_S_insert_68 : decode b_S_insert 68 = .ok (.getfield 37, 3) := by decide +kernel
theorem d_S_insert_71 : decode b_S_insert 71 = .ok (.ireturn, 1) := by decide +kernel
theorem d_S_finger_0 : decode b_S_finger 0 = .ok (.aload_n 0, 1) := by decide +kernel
theorem d_S_finger_1 : decode b_S_finger 1 = .ok (.invokevirtual 108, 3) := by decide +kernel
theorem d_S_finger_4 : decode b_S_finger 4 = .ok (.aload_n 0, 1) := by decide +kernel
theorem d_S_finger_5 : decode b_S_finger 5 = .ok (.getfield 37, 3) := by decide +kernel
theorem d_S_finger_8 : decode b_S_finger 8 = .ok (.iconst 1, 1) := by decide +kernel
theorem d_S_finger_9 : decode b_S_finger 9 = .ok (.if_icmp .eq 11, 3) := by decide +kernel
theorem d_S_finger_12 : decode b_S_finger 12 = .ok (.new 91, 3) := by decide +kernel
theorem d_S_finger_15 : decode b_S_finger 15 = .ok (.dup, 1) := by decide +kernel
theorem d_S_finger_16 : decode b_S_finger 16 = .ok (.invokespecial 93, 3) := by decide +kernel
theorem d_S_finger_19 : decode b_S_finger 19 = .ok (.athrow, 1) := by decide +kernel
theorem d_S_finger_20 : decode b_S_finger 20 = .ok (.iload_n 1, 1) := by decide +kernel
theorem d_S_finger_21 : decode b_S_finger 21 = .ok (.iconst 0, 1) := by decide +kernel
theorem d_S_finger_22 : decode b_S_finger 22 = .ok (.ldc 130, 2) := by decide +kernel
theorem d_S_finger_24 : decode b_S_finger 24 = .ok (.invokestatic 69, 3) := by decide +kernel
theorem d_S_finger_27 : decode b_S_finger 27 = .ok (.ifCond .ne 11, 3) := by decide +kernel
theorem d_S_finger_30 : decode b_S_finger 30 = .ok (.new 54, 3) := by decide +kernel
theorem d_S_finger_33 : decode b_S_finger 33 = .ok (.dup, 1) := by decide +kernel
theorem d_S_finger_34 : decode b_S_finger 34 = .ok (.invokespecial 56, 3) := by decide +kernel
theorem d_S_finger_37 : decode b_S_finger 37 = .ok (.athrow, 1) := by decide +kernel
theorem d_S_finger_38 : decode b_S_finger 38 = .ok (.aload_n 0, 1) := by decide +kernel
theorem d_S_finger_39 : decode b_S_finger 39 = .ok (.aload_n 0, 1) := by decide +kernel
theorem d_S_finger_40 : decode b_S_finger 40 = .ok (.getfield 41, 3) := by decide +kernel
theorem d_S_finger_43 : decode b_S_finger 43 = .ok (.iconst 1, 1) := by decide +kernel
theorem d_S_finger_44 : decode b_S_finger 44 = .ok (.invokevirtual 76, 3) := by decide +kernel
theorem d_S_finger_47 : decode b_S_finger 47 = .ok (.astore_n 2, 1) := by decide +kernel
theorem d_S_finger_48 : decode b_S_finger 48 = .ok (.aload_n 0, 1) := by decide +kernel
theorem d_S_finger_49 : decode b_S_finger 49 = .ok (.aload_n 0, 1) := by decide +kernel
theorem d_S_finger_50 : decode b_S_finger 50 = .ok (.getfield 41, 3) := by decide +kernel
theorem d_S_finger_53 : decode b_S_finger 53 = .ok (.iconst 2, 1) := by decide +kernel
theorem d_S_finger_54 : decode b_S_finger 54 = .ok (.invokevirtual 76, 3) := by decide +kernel
theorem d_S_finger_57 : decode b_S_finger 57 = .ok (.astore_n 3, 1) := by decide +kernel
theorem d_S_finger_58 : decode b_S_finger 58 = .ok (.aload_n 2, 1) := by decide +kernel
theorem d_S_finger_59 : decode b_S_finger 59 = .ok (.ifnull 48, 3) := by decide +kernel
theorem d_S_finger_62 : decode b_S_finger 62 = .ok (.aload_n 3, 1) := by decide +kernel
theorem d_S_finger_63 : decode b_S_finger 63 = .ok (.ifnull 44, 3) := by decide +kernel
theorem d_S_finger_66 : decode b_S_finger 66 = .ok (.aload_n 0, 1) := by decide +kernel
theorem d_S_finger_67 : decode b_S_finger 67 = .ok (.iload_n 1, 1) := by decide +kernel
theorem d_S_finger_68 : decode b_S_finger 68 = .ok (.aload_n 3, 1) := by decide +kernel
theorem d_S_finger_69 : decode b_S_finger 69 = .ok (.getfield 131, 3) := by decide +kernel
theorem d_S_finger_72 : decode b_S_finger 72 = .ok (.invokevirtual 134, 3) := by decide +kernel
theorem d_S_finger_75 : decode b_S_finger 75 = .ok (.ifCond .eq 32, 3) := by decide +kernel
theorem d_S_finger_78 : decode b_S_finger 78 = .ok (.aload_n 0, 1) := by decide +kernel
theorem d_S_finger_79 : decode b_S_finger 79 = .ok (.aload_n 0, 1) := by decide +kernel
theorem d_S_finger_80 : decode b_S_finger 80 = .ok (.getfield 41, 3) := by decide +kernel
theorem d_S_finger_83 : decode b_S_finger 83 = .ok (.aload_n 0, 1) := by decide +kernel
theorem d_S_finger_84 : decode b_S_finger 84 = .ok (.aload_n 2, 1) := by decide +kernel
theorem d_S_finger_85 : decode b_S_finger 85 = .ok (.invokevirtual 138, 3) := by decide +kernel
theorem d_S_finger_88 : decode b_S_finger 88 = .ok (.invokevirtual 83, 3) := by decide +kernel
theorem d_S_finger_91 : decode b_S_finger 91 = .ok (.aload_n 0, 1) := by decide +kernel
theorem d_S_finger_92 : decode b_S_finger 92 = .ok (.aload_n 0, 1) := by decide +kernel
theorem d_S_finger_93 : decode b_S_finger 93 = .ok (.getfield 41, 3) := by decide +kernel
theorem d_S_finger_96 : decode b_S_finger 96 = .ok (.iconst 4, 1) := by decide +kernel
theorem d_S_finger_97 : decode b_S_finger 97 = .ok (.invokevirtual 114, 3) := by decide +kernel
theorem d_S_finger_100 : decode b_S_finger 100 = .ok (.aload_n 0, 1) := by decide +kernel
theorem d_S_finger_101 : decode b_S_finger 101 = .ok (.invokevirtual 121, 3) := by decide +kernel
theorem d_S_finger_104 : decode b_S_finger 104 = .ok (.goto 8, 3) := by decide +kernel
theorem d_S_finger_107 : decode b_S_finger 107 = .ok (.aload_n 0, 1) := by decide +kernel
theorem d_S_finger_108 : decode b_S_finger 108 = .ok (.iconst 5, 1) := by decide +kernel
theorem d_S_finger_109 : decode b_S_finger 109 = .ok (.invokevirtual 127, 3) := by decide +kernel
theorem d_S_finger_112 : decode b_S_finger 112 = .ok (.aload_n 0, 1) := by decide +kernel
theorem d_S_finger_113 : decode b_S_finger 113 = .ok (.getfield 37, 3) := by decide +kernel
theorem d_S_finger_116 : decode b_S_finger 116 = .ok (.ireturn, 1) := by decide +kernel
theorem d_S_remove_0 : decode b_S_remove 0 = .ok (.aload_n 0, 1) := by decide +kernel
theorem d_S_remove_1 : decode b_S_remove 1 = .ok (.invokevirtual 108, 3) := by decide +kernel
theorem d_S_remove_4 : decode b_S_remove 4 = .ok (.aload_n 0, 1) := by decide +kernel
theorem d_S_remove_5 : decode b_S_remove 5 = .ok (.getfield 41, 3) := by decide +kernel
theorem d_S_remove_8 : decode b_S_remove 8 = .ok (.invokestatic 142, 3) := by decide +kernel
theorem d_S_remove_11 : decode b_S_remove 11 = .ok (.aload_n 0, 1) := by decide +kernel
theorem d_S_remove_12 : decode b_S_remove 12 = .ok (.getfield 41, 3) := by decide +kernel
theorem d_S_remove_15 : decode b_S_remove 15 = .ok (.istore_n 1, 1) := by decide +kernel
theorem d_S_remove_16 : decode b_S_remove 16 = .ok (.aload_n 0, 1) := by decide +kernel
theorem d_S_remove_17 : decode b_S_remove 17 = .ok (.getfield 37, 3) := by decide +kernel
theorem d_S_remove_20 : decode b_S_remove 20 = .ok (.iconst 2, 1) := by decide +kernel
theorem d_S_remove_21 : decode b_S_remove 21 = .ok (.if_icmp .ne 10, 3) := by decide +kernel
theorem d_S_remove_24 : decode b_S_remove 24 = .ok (.aload_n 0, 1) := by decide +kernel
theorem d_S_remove_25 : decode b_S_remove 25 = .ok (.invokevirtual 145, 3) := by decide +kernel
theorem d_S_remove_28 : decode b_S_remove 28 = .ok (.goto 18, 3) := by decide +kernel
theorem d_S_remove_31 : decode b_S_remove 31 = .ok (.aload_n 0, 1) := by decide +kernel
theorem d_S_remove_32 : decode b_S_remove 32 = .ok (.getfield 37, 3) := by decide +kernel
theorem d_S_remove_35 : decode b_S_remove 35 = .ok (.iconst 1, 1) := by decide +kernel
theorem d_S_remove_36 : decode b_S_remove 36 = .ok (.if_icmp .ne 10, 3) := by decide +kernel
theorem d_S_remove_39 : decode b_S_remove 39 = .ok (.aload_n 0, 1) := by decide +kernel
theorem d_S_remove_40 : decode b_S_remove 40 = .ok (.iload_n 1, 1) := by decide +kernel
theorem d_S_remove_41 : decode b_S_remove 41 = .ok (.bipush 8, 2) := by decide +kernel
theorem d_S_remove_43 : decode b_S_remove 43 = .ok (.invokevirtual 114, 3) := by decide +kernel
theorem d_S_remove_46 : decode b_S_remove 46 = .ok (.aload_n 0, 1) := by decide +kernel
theorem d_S_remove_47 : decode b_S_remove 47 = .ok (.iconst (-1), 1) := by decide +kernel
theorem d_S_remove_48 : decode b_S_remove 48 = .ok (.putfield 41, 3) := by decide +kernel
theorem d_S_remove_51 : decode b_S_remove 51 = .ok (.aload_n 0, 1) := by decide +kernel
theorem d_S_remove_52 : decode b_S_remove 52 = .ok (.iconst 0, 1) := by decide +kernel
theorem d_S_remove_53 : decode b_S_remove 53 = .ok (.invokevirtual 98, 3) := by decide +kernel
theorem d_S_remove_56 : decode b_S_remove 56 = .ok (.iload_n 1, 1) := by decide +kernel
theorem d_S_remove_57 : decode b_S_remove 57 = .ok (.ireturn, 1) := by decide +kernel
theorem d_S_logon_0 : decode b_S_logon 0 = .ok (.aload_n 0, 1) := by decide +kernel
theorem d_S_logon_1 : decode b_S_logon 1 = .ok (.invokevirtual 108, 3) := by decide +kernel
theorem d_S_logon_4 : decode b_S_logon 4 = .ok (.iload_n 1, 1) := by decide +kernel
theorem d_S_logon_5 : decode b_S_logon 5 = .ok (.invokestatic 65, 3) := by decide +kernel
theorem d_S_logon_8 : decode b_S_logon 8 = .ok (.aload_n 0, 1) := by decide +kernel
theorem d_S_logon_9 : decode b_S_logon 9 = .ok (.iload_n 1, 1) := by decide +kernel
theorem d_S_logon_10 : decode b_S_logon 10 = .ok (.invokevirtual 73, 3) := by decide +kernel
theorem d_S_logon_13 : decode b_S_logon 13 = .ok (.aload_n 0, 1) := by decide +kernel
theorem d_S_logon_14 : decode b_S_logon 14 = .ok (.getfield 44, 3) := by decide +kernel
theorem d_S_logon_17 : decode b_S_logon 17 = .ok (.invokestatic 111, 3) := by decide +kernel
theorem d_S_logon_20 : decode b_S_logon 20 = .ok (.aload_n 0, 1) := by decide +kernel
theorem d_S_logon_21 : decode b_S_logon 21 = .ok (.iload_n 1, 1) := by decide +kernel
theorem d_S_logon_22 : decode b_S_logon 22 = .ok (.putfield 44, 3) := by decide +kernel
theorem d_S_logon_25 : decode b_S_logon 25 = .ok (.aload_n 0, 1) := by decide +kernel
theorem d_S_logon_26 : decode b_S_logon 26 = .ok (.aload_n 0, 1) := by decide +kernel
theorem d_S_logon_27 : decode b_S_logon 27 = .ok (.iload_n 1, 1) := by decide +kernel
theorem d_S_logon_28 : decode b_S_logon 28 = .ok (.invokevirtual 118, 3) := by decide +kernel
theorem d_S_logon_31 : decode b_S_logon 31 = .ok (.ifCond .eq 11, 3) := by decide +kernel
theorem d_S_logon_34 : decode b_S_logon 34 = .ok (.aload_n 0, 1) := by decide +kernel
theorem d_S_logon_35 : decode b_S_logon 35 = .ok (.iload_n 1, 1) := by decide +kernel
theorem d_S_logon_36 : decode b_S_logon 36 = .ok (.invokevirtual 148, 3) := by decide +kernel
theorem d_S_logon_39 : decode b_S_logon 39 = .ok (.goto 4, 3) := by decide +kernel
theorem d_S_logon_42 : decode b_S_logon 42 = .ok (.iconst 0, 1) := by decide +kernel
theorem d_S_logon_43 : decode b_S_logon 43 = .ok (.putfield 47, 3) := by decide +kernel
theorem d_S_logon_46 : decode b_S_logon 46 = .ok (.aload_n 0, 1) := by decide +kernel
theorem d_S_logon_47 : decode b_S_logon 47 = .ok (.iload_n 1, 1) := by decide +kernel
theorem d_S_logon_48 : decode b_S_logon 48 = .ok (.aload_n 0, 1) := by decide +kernel
theorem d_S_logon_49 : decode b_S_logon 49 = .ok (.getfield 47, 3) := by decide +kernel
theorem d_S_logon_52 : decode b_S_logon 52 = .ok (.ifCond .ne 8, 3) := by decide +kernel
theorem d_S_logon_55 : decode b_S_logon 55 = .ok (.bipush 16, 2) := by decide +kernel
theorem d_S_logon_57 : decode b_S_logon 57 = .ok (.goto 5, 3) := by decide +kernel
theorem d_S_logon_60 : decode b_S_logon 60 = .ok (.bipush 10, 2) := by decide +kernel
theorem d_S_logon_62 : decode b_S_logon 62 = .ok (.invokevirtual 114, 3) := by decide +kernel
theorem d_S_logon_65 : decode b_S_logon 65 = .ok (.aload_n 0, 1) := by decide +kernel
theorem d_S_logon_66 : decode b_S_logon 66 = .ok (.getfield 47, 3) := by decide +kernel
theorem d_S_logon_69 : decode b_S_logon 69 = .ok (.ireturn, 1) := by decide +kernel
theorem d_S_logoff_0 : decode b_S_logoff 0 = .ok (.aload_n 0, 1) := by decide +kernel
theorem d_S_logoff_1 : decode b_S_logoff 1 = .ok (.invokevirtual 108, 3) := by decide +kernel
theorem d_S_logoff_4 : decode b_S_logoff 4 = .ok (.aload_n 0, 1) := by decide +kernel
theorem d_S_logoff_5 : decode b_S_logoff 5 = .ok (.getfield 44, 3) := by decide +kernel
theorem d_S_logoff_8 : decode b_S_logoff 8 = .ok (.invokestatic 142, 3) := by decide +kernel
theorem d_S_logoff_11 : decode b_S_logoff 11 = .ok (.aload_n 0, 1) := by decide +kernel
theorem d_S_logoff_12 : decode b_S_logoff 12 = .ok (.getfield 44, 3) := by decide +kernel
theorem d_S_logoff_15 : decode b_S_logoff 15 = .ok (.istore_n 1, 1) := by decide +kernel
theorem d_S_logoff_16 : decode b_S_logoff 16 = .ok (.aload_n 0, 1) := by decide +kernel
theorem d_S_logoff_17 : decode b_S_logoff 17 = .ok (.getfield 47, 3) := by decide +kernel
theorem d_S_logoff_20 : decode b_S_logoff 20 = .ok (.ifCond .eq 7, 3) := by decide +kernel
theorem d_S_logoff_23 : decode b_S_logoff 23 = .ok (.aload_n 0, 1) := by decide +kernel
theorem d_S_logoff_24 : decode b_S_logoff 24 = .ok (.invokevirtual 152, 3) := by decide +kernel
theorem d_S_logoff_27 : decode b_S_logoff 27 = .ok (.aload_n 0, 1) := by decide +kernel
theorem d_S_logoff_28 : decode b_S_logoff 28 = .ok (.iconst (-1), 1) := by decide +kernel
theorem d_S_logoff_29 : decode b_S_logoff 29 = .ok (.putfield 44, 3) := by decide +kernel
theorem d_S_logoff_32 : decode b_S_logoff 32 = .ok (.iload_n 1, 1) := by decide +kernel
theorem d_S_logoff_33 : decode b_S_logoff 33 = .ok (.ireturn, 1) := by decide +kernel
theorem d_S_override_0 : decode b_S_override 0 = .ok (.aload_n 0, 1) := by decide +kernel
theorem d_S_override_1 : decode b_S_override 1 = .ok (.invokevirtual 108, 3) := by decide +kernel
theorem d_S_override_4 : decode b_S_override 4 = .ok (.aload_n 0, 1) := by decide +kernel
theorem d_S_override_5 : decode b_S_override 5 = .ok (.invokevirtual 155, 3) := by decide +kernel
theorem d_S_override_8 : decode b_S_override 8 = .ok (.aload_n 0, 1) := by decide +kernel
theorem d_S_override_9 : decode b_S_override 9 = .ok (.iconst 1, 1) := by decide +kernel
theorem d_S_override_10 : decode b_S_override 10 = .ok (.invokevirtual 158, 3) := by decide +kernel
theorem d_S_override_13 : decode b_S_override 13 = .ok (.aload_n 0, 1) := by decide +kernel
theorem d_S_override_14 : decode b_S_override 14 = .ok (.invokevirtual 145, 3) := by decide +kernel
theorem d_S_override_17 : decode b_S_override 17 = .ok (.aload_n 0, 1) := by decide +kernel
theorem d_S_override_18 : decode b_S_override 18 = .ok (.aload_n 0, 1) := by decide +kernel
theorem d_S_override_19 : decode b_S_override 19 = .ok (.getfield 44, 3) := by decide +kernel
theorem d_S_override_22 : decode b_S_override 22 = .ok (.bipush 12, 2) := by decide +kernel
theorem d_S_override_24 : decode b_S_override 24 = .ok (.invokevirtual 114, 3) := by decide +kernel
theorem d_S_override_27 : decode b_S_override 27 = .ok (.aload_n 0, 1) := by decide +kernel
theorem d_S_override_28 : decode b_S_override 28 = .ok (.getfield 161, 3) := by decide +kernel
theorem d_S_override_31 : decode b_S_override 31 = .ok (.ireturn, 1) := by decide +kernel
theorem d_S_archive_0 : decode b_S_archive 0 = .ok (.aload_n 0, 1) := by decide +kernel
theorem d_S_archive_1 : decode b_S_archive 1 = .ok (.invokevirtual 108, 3) := by decide +kernel
theorem d_S_archive_4 : decode b_S_archive 4 = .ok (.aload_n 0, 1) := by decide +kernel
theorem d_S_archive_5 : decode b_S_archive 5 = .ok (.invokevirtual 155, 3) := by decide +kernel
theorem d_S_archive_8 : decode b_S_archive 8 = .ok (.aload_n 0, 1) := by decide +kernel
theorem d_S_archive_9 : decode b_S_archive 9 = .ok (.iconst 2, 1) := by decide +kernel
theorem d_S_archive_10 : decode b_S_archive 10 = .ok (.invokevirtual 158, 3) := by decide +kernel
theorem d_S_archive_13 : decode b_S_archive 13 = .ok (.aload_n 0, 1) := by decide +kernel
theorem d_S_archive_14 : decode b_S_archive 14 = .ok (.getfield 33, 3) := by decide +kernel
theorem d_S_archive_17 : decode b_S_archive 17 = .ok (.getfield 164, 3) := by decide +kernel
theorem d_S_archive_20 : decode b_S_archive 20 = .ok (.istore_n 1, 1) := by decide +kernel
theorem d_S_archive_21 : decode b_S_archive 21 = .ok (.aload_n 0, 1) := by decide +kernel
theorem d_S_archive_22 : decode b_S_archive 22 = .ok (.getfield 33, 3) := by decide +kernel
theorem d_S_archive_25 : decode b_S_archive 25 = .ok (.invokevirtual 167, 3) := by decide +kernel
theorem d_S_archive_28 : decode b_S_archive 28 = .ok (.aload_n 0, 1) := by decide +kernel
theorem d_S_archive_29 : decode b_S_archive 29 = .ok (.aload_n 0, 1) := by decide +kernel
theorem d_S_archive_30 : decode b_S_archive 30 = .ok (.getfield 44, 3) := by decide +kernel
theorem d_S_archive_33 : decode b_S_archive 33 = .ok (.bipush 13, 2) := by decide +kernel
theorem d_S_archive_35 : decode b_S_archive 35 = .ok (.invokevirtual 114, 3) := by decide +kernel
theorem d_S_archive_38 : decode b_S_archive 38 = .ok (.iload_n 1, 1) := by decide +kernel
theorem d_S_archive_39 : decode b_S_archive 39 = .ok (.ireturn, 1) := by decide +kernel
theorem d_S_configure_0 : decode b_S_configure 0 = .ok (.aload_n 0, 1) := by decide +kernel
theorem d_S_configure_1 : decode b_S_configure 1 = .ok (.invokevirtual 108, 3) := by decide +kernel
theorem d_S_configure_4 : decode b_S_configure 4 = .ok (.aload_n 0, 1) := by decide +kernel
theorem d_S_configure_5 : decode b_S_configure 5 = .ok (.invokevirtual 155, 3) := by decide +kernel
theorem d_S_configure_8 : decode b_S_configure 8 = .ok (.aload_n 0, 1) := by decide +kernel
theorem d_S_configure_9 : decode b_S_configure 9 = .ok (.iconst 3, 1) := by decide +kernel
theorem d_S_configure_10 : decode b_S_configure 10 = .ok (.invokevirtual 158, 3) := by decide +kernel
theorem d_S_configure_13 : decode b_S_configure 13 = .ok (.iload_n 1, 1) := by decide +kernel
theorem d_S_configure_14 : decode b_S_configure 14 = .ok (.iconst 0, 1) := by decide +kernel
theorem d_S_configure_15 : decode b_S_configure 15 = .ok (.iconst 5, 1) := by decide +kernel
theorem d_S_configure_16 : decode b_S_configure 16 = .ok (.invokestatic 69, 3) := by decide +kernel
theorem d_S_configure_19 : decode b_S_configure 19 = .ok (.ifCond .eq 16, 3) := by decide +kernel
theorem d_S_configure_22 : decode b_S_configure 22 = .ok (.iload_n 2, 1) := by decide +kernel
theorem d_S_configure_23 : decode b_S_configure 23 = .ok (.iconst 0, 1) := by decide +kernel
theorem d_S_configure_24 : decode b_S_configure 24 = .ok (.getstatic 170, 3) := by decide +kernel
theorem d_S_configure_27 : decode b_S_configure 27 = .ok (.iload_n 1, 1) := by decide +kernel
theorem d_S_configure_28 : decode b_S_configure 28 = .ok (.iaload, 1) := by decide +kernel
theorem d_S_configure_29 : decode b_S_configure 29 = .ok (.invokestatic 69, 3) := by decide +kernel
theorem d_S_configure_32 : decode b_S_configure 32 = .ok (.ifCond .ne 11, 3) := by decide +kernel
theorem d_S_configure_35 : decode b_S_configure 35 = .ok (.new 54, 3) := by decide +kernel
theorem d_S_configure_38 : decode b_S_configure 38 = .ok (.dup, 1) := by decide +kernel
theorem d_S_configure_39 : decode b_S_configure 39 = .ok (.invokespecial 56, 3) := by decide +kernel
theorem d_S_configure_42 : decode b_S_configure 42 = .ok (.athrow, 1) := by decide +kernel
theorem d_S_configure_43 : decode b_S_configure 43 = .ok (.aload_n 0, 1) := by decide +kernel
theorem d_S_configure_44 : decode b_S_configure 44 = .ok (.getfield 18, 3) := by decide +kernel
theorem d_S_configure_47 : decode b_S_configure 47 = .ok (.iload_n 1, 1) := by decide +kernel
theorem d_S_configure_48 : decode b_S_configure 48 = .ok (.iaload, 1) := by decide +kernel
theorem d_S_configure_49 : decode b_S_configure 49 = .ok (.istore_n 3, 1) := by decide +kernel
theorem d_S_configure_50 : decode b_S_configure 50 = .ok (.aload_n 0, 1) := by decide +kernel
theorem d_S_configure_51 : decode b_S_configure 51 = .ok (.getfield 18, 3) := by decide +kernel
theorem d_S_configure_54 : decode b_S_configure 54 = .ok (.iload_n 1, 1) := by decide +kernel
theorem d_S_configure_55 : decode b_S_configure 55 = .ok (.iload_n 2, 1) := by decide +kernel
theorem d_S_configure_56 : decode b_S_configure 56 = .ok (.iastore, 1) := by decide +kernel
theorem d_S_configure_57 : decode b_S_configure 57 = .ok (.aload_n 0, 1) := by decide +kernel
theorem d_S_configure_58 : decode b_S_configure 58 = .ok (.aload_n 0, 1) := by decide +kernel
theorem d_S_configure_59 : decode b_S_configure 59 = .ok (.getfield 44, 3) := by decide +kernel
theorem d_S_configure_62 : decode b_S_configure 62 = .ok (.bipush 14, 2) := by decide +kernel
theorem d_S_configure_64 : decode b_S_configure 64 = .ok (.invokevirtual 114, 3) := by decide +kernel
theorem d_S_configure_67 : decode b_S_configure 67 = .ok (.iload_n 3, 1) := by decide +kernel
theorem d_S_configure_68 : decode b_S_configure 68 = .ok (.ireturn, 1) := by decide +kernel
theorem d_S_shutdown_0 : decode b_S_shutdown 0 = .ok (.aload_n 0, 1) := by decide +kernel
theorem d_S_shutdown_1 : decode b_S_shutdown 1 = .ok (.invokevirtual 108, 3) := by decide +kernel
theorem d_S_shutdown_4 : decode b_S_shutdown 4 = .ok (.aload_n 0, 1) := by decide +kernel
theorem d_S_shutdown_5 : decode b_S_shutdown 5 = .ok (.invokevirtual 155, 3) := by decide +kernel
theorem d_S_shutdown_8 : decode b_S_shutdown 8 = .ok (.aload_n 0, 1) := by decide +kernel
theorem d_S_shutdown_9 : decode b_S_shutdown 9 = .ok (.getfield 173, 3) := by decide +kernel
theorem d_S_shutdown_12 : decode b_S_shutdown 12 = .ok (.ifCond .eq 11, 3) := by decide +kernel
theorem d_S_shutdown_15 : decode b_S_shutdown 15 = .ok (.new 91, 3) := by decide +kernel
theorem d_S_shutdown_18 : decode b_S_shutdown 18 = .ok (.dup, 1) := by decide +kernel
theorem d_S_shutdown_19 : decode b_S_shutdown 19 = .ok (.invokespecial 93, 3) := by decide +kernel
theorem d_S_shutdown_22 : decode b_S_shutdown 22 = .ok (.athrow, 1) := by decide +kernel
theorem d_S_shutdown_23 : decode b_S_shutdown 23 = .ok (.aload_n 0, 1) := by decide +kernel
theorem d_S_shutdown_24 : decode b_S_shutdown 24 = .ok (.iconst 3, 1) := by decide +kernel
theorem d_S_shutdown_25 : decode b_S_shutdown 25 = .ok (.invokevirtual 158, 3) := by decide +kernel
theorem d_S_shutdown_28 : decode b_S_shutdown 28 = .ok (.aload_n 0, 1) := by decide +kernel
theorem d_S_shutdown_29 : decode b_S_shutdown 29 = .ok (.aload_n 0, 1) := by decide +kernel
theorem d_S_shutdown_30 : decode b_S_shutdown 30 = .ok (.getfield 44, 3) := by decide +kernel
theorem d_S_shutdown_33 : decode b_S_shutdown 33 = .ok (.bipush 15, 2) := by decide +kernel
theorem d_S_shutdown_35 : decode b_S_shutdown 35 = .ok (.invokevirtual 114, 3) := by decide +kernel
theorem d_S_shutdown_38 : decode b_S_shutdown 38 = .ok (.aload_n 0, 1) := by decide +kernel
theorem d_S_shutdown_39 : decode b_S_shutdown 39 = .ok (.iconst 0, 1) := by decide +kernel
theorem d_S_shutdown_40 : decode b_S_shutdown 40 = .ok (.putfield 87, 3) := by decide +kernel
theorem d_S_shutdown_43 : decode b_S_shutdown 43 = .ok (.aload_n 0, 1) := by decide +kernel
theorem d_S_shutdown_44 : decode b_S_shutdown 44 = .ok (.aload_n 0, 1) := by decide +kernel
theorem d_S_shutdown_45 : decode b_S_shutdown 45 = .ok (.getfield 101, 3) := by decide +kernel
theorem d_S_shutdown_48 : decode b_S_shutdown 48 = .ok (.putfield 161, 3) := by decide +kernel
theorem d_S_shutdown_51 : decode b_S_shutdown 51 = .ok (.aload_n 0, 1) := by decide +kernel
theorem d_S_shutdown_52 : decode b_S_shutdown 52 = .ok (.iconst (-1), 1) := by decide +kernel
theorem d_S_shutdown_53 : decode b_S_shutdown 53 = .ok (.putfield 41, 3) := by decide +kernel
theorem d_S_shutdown_56 : decode b_S_shutdown 56 = .ok (.aload_n 0, 1) := by decide +kernel
theorem d_S_shutdown_57 : decode b_S_shutdown 57 = .ok (.iconst (-1), 1) := by decide +kernel
theorem d_S_shutdown_58 : decode b_S_shutdown 58 = .ok (.putfield 44, 3) := by decide +kernel
theorem d_S_shutdown_61 : decode b_S_shutdown 61 = .ok (.aload_n 0, 1) := by decide +kernel
theorem d_S_shutdown_62 : decode b_S_shutdown 62 = .ok (.iconst 0, 1) := by decide +kernel
theorem d_S_shutdown_63 : decode b_S_shutdown 63 = .ok (.invokevirtual 98, 3) := by decide +kernel
theorem d_S_shutdown_66 : decode b_S_shutdown 66 = .ok (.aload_n 0, 1) := by decide +kernel
theorem d_S_shutdown_67 : decode b_S_shutdown 67 = .ok (.iconst 0, 1) := by decide +kernel
theorem d_S_shutdown_68 : decode b_S_shutdown 68 = .ok (.putfield 47, 3) := by decide +kernel
theorem d_S_shutdown_71 : decode b_S_shutdown 71 = .ok (.iconst 1, 1) := by decide +kernel
theorem d_S_shutdown_72 : decode b_S_shutdown 72 = .ok (.ireturn, 1) := by decide +kernel
theorem d_S_door_0 : decode b_S_door 0 = .ok (.iload_n 1, 1) := by decide +kernel
theorem d_S_door_1 : decode b_S_door 1 = .ok (.aload_n 0, 1) := by decide +kernel
theorem d_S_door_2 : decode b_S_door 2 = .ok (.getfield 173, 3) := by decide +kernel
theorem d_S_door_5 : decode b_S_door 5 = .ok (.if_icmp .ne 5, 3) := by decide +kernel
theorem d_S_door_8 : decode b_S_door 8 = .ok (.iconst 0, 1) := by decide +kernel
theorem d_S_door_9 : decode b_S_door 9 = .ok (.ireturn, 1) := by decide +kernel
theorem d_S_door_10 : decode b_S_door 10 = .ok (.aload_n 0, 1) := by decide +kernel
theorem d_S_door_11 : decode b_S_door 11 = .ok (.iload_n 1, 1) := by decide +kernel
theorem d_S_door_12 : decode b_S_door 12 = .ok (.putfield 173, 3) := by decide +kernel
theorem d_S_door_15 : decode b_S_door 15 = .ok (.iload_n 1, 1) := by decide +kernel
theorem d_S_door_16 : decode b_S_door 16 = .ok (.ifCond .eq 39, 3) := by decide +kernel
theorem d_S_door_19 : decode b_S_door 19 = .ok (.aload_n 0, 1) := by decide +kernel
theorem d_S_door_20 : decode b_S_door 20 = .ok (.invokevirtual 176, 3) := by decide +kernel
theorem d_S_door_23 : decode b_S_door 23 = .ok (.ifCond .ne 32, 3) := by decide +kernel
theorem d_S_door_26 : decode b_S_door 26 = .ok (.aload_n 0, 1) := by decide +kernel
theorem d_S_door_27 : decode b_S_door 27 = .ok (.getfield 33, 3) := by decide +kernel
theorem d_S_door_30 : decode b_S_door 30 = .ok (.bipush 9, 2) := by decide +kernel
theorem d_S_door_32 : decode b_S_door 32 = .ok (.aload_n 0, 1) := by decide +kernel
theorem d_S_door_33 : decode b_S_door 33 = .ok (.getfield 101, 3) := by decide +kernel
theorem d_S_door_36 : decode b_S_door 36 = .ok (.iconst (-1), 1) := by decide +kernel
theorem d_S_door_37 : decode b_S_door 37 = .ok (.invokevirtual 104, 3) := by decide +kernel
theorem d_S_door_40 : decode b_S_door 40 = .ok (.aload_n 0, 1) := by decide +kernel
theorem d_S_door_41 : decode b_S_door 41 = .ok (.aload_n 0, 1) := by decide +kernel
theorem d_S_door_42 : decode b_S_door 42 = .ok (.getfield 101, 3) := by decide +kernel
theorem d_S_door_45 : decode b_S_door 45 = .ok (.aload_n 0, 1) := by decide +kernel
theorem d_S_door_46 : decode b_S_door 46 = .ok (.getfield 18, 3) := by decide +kernel
theorem d_S_door_49 : decode b_S_door 49 = .ok (.iconst 1, 1) := by decide +kernel
theorem d_S_door_50 : decode b_S_door 50 = .ok (.iaload, 1) := by decide +kernel
theorem d_S_door_51 : decode b_S_door 51 = .ok (.iadd, 1) := by decide +kernel
theorem d_S_door_52 : decode b_S_door 52 = .ok (.putfield 180, 3) := by decide +kernel
theorem d_S_door_55 : decode b_S_door 55 = .ok (.iconst 1, 1) := by decide +kernel
theorem d_S_door_56 : decode b_S_door 56 = .ok (.ireturn, 1) := by decide +kernel
theorem d_S_pass_0 : decode b_S_pass 0 = .ok (.iload_n 1, 1) := by decide +kernel
theorem d_S_pass_1 : decode b_S_pass 1 = .ok (.iconst 1, 1) := by decide +kernel
theorem d_S_pass_2 : decode b_S_pass 2 = .ok (.sipush 1000, 3) := by decide +kernel
theorem d_S_pass_5 : decode b_S_pass 5 = .ok (.invokestatic 69, 3) := by decide +kernel
theorem d_S_pass_8 : decode b_S_pass 8 = .ok (.ifCond .eq 14, 3) := by decide +kernel
theorem d_S_pass_11 : decode b_S_pass 11 = .ok (.iload_n 1, 1) := by decide +kernel
theorem d_S_pass_12 : decode b_S_pass 12 = .ok (.ldc 183, 2) := by decide +kernel
theorem d_S_pass_14 : decode b_S_pass 14 = .ok (.aload_n 0, 1) := by decide +kernel
theorem d_S_pass_15 : decode b_S_pass 15 = .ok (.getfield 101, 3) := by decide +kernel
theorem d_S_pass_18 : decode b_S_pass 18 = .ok (.isub, 1) := by decide +kernel
theorem d_S_pass_19 : decode b_S_pass 19 = .ok (.if_icmp .le 11, 3) := by decide +kernel
theorem d_S_pass_22 : decode b_S_pass 22 = .ok (.new 54, 3) := by decide +kernel
theorem d_S_pass_25 : decode b_S_pass 25 = .ok (.dup, 1) := by decide +kernel
theorem d_S_pass_26 : decode b_S_pass 26 = .ok (.invokespecial 56, 3) := by decide +kernel
theorem d_S_pass_29 : decode b_S_pass 29 = .ok (.athrow, 1) := by decide +kernel
theorem d_S_pass_30 : decode b_S_pass 30 = .ok (.iconst 0, 1) := by decide +kernel
theorem d_S_pass_31 : decode b_S_pass 31 = .ok (.istore_n 2, 1) := by decide +kernel
theorem d_S_pass_32 : decode b_S_pass 32 = .ok (.iload_n 2, 1) := by decide +kernel
theorem d_S_pass_33 : decode b_S_pass 33 = .ok (.iload_n 1, 1) := by decide +kernel
theorem d_S_pass_34 : decode b_S_pass 34 = .ok (.if_icmp .ge 27, 3) := by decide +kernel
theorem d_S_pass_37 : decode b_S_pass 37 = .ok (.aload_n 0, 1) := by decide +kernel
theorem d_S_pass_38 : decode b_S_pass 38 = .ok (.dup, 1) := by decide +kernel
theorem d_S_pass_39 : decode b_S_pass 39 = .ok (.getfield 101, 3) := by decide +kernel
theorem d_S_pass_42 : decode b_S_pass 42 = .ok (.iconst 1, 1) := by decide +kernel
theorem d_S_pass_43 : decode b_S_pass 43 = .ok (.iadd, 1) := by decide +kernel
theorem d_S_pass_44 : decode b_S_pass 44 = .ok (.putfield 101, 3) := by decide +kernel
theorem d_S_pass_47 : decode b_S_pass 47 = .ok (.aload_n 0, 1) := by decide +kernel
theorem d_S_pass_48 : decode b_S_pass 48 = .ok (.invokevirtual 184, 3) := by decide +kernel
theorem d_S_pass_51 : decode b_S_pass 51 = .ok (.aload_n 0, 1) := by decide +kernel
theorem d_S_pass_52 : decode b_S_pass 52 = .ok (.invokevirtual 187, 3) := by decide +kernel
theorem d_S_pass_55 : decode b_S_pass 55 = .ok (.iinc 2 1, 3) := by decide +kernel
theorem d_S_pass_58 : decode b_S_pass 58 = .ok (.goto (-26), 3) := by decide +kernel
theorem d_S_pass_61 : decode b_S_pass 61 = .ok (.aload_n 0, 1) := by decide +kernel
theorem d_S_pass_62 : decode b_S_pass 62 = .ok (.getfield 101, 3) := by decide +kernel
theorem d_S_pass_65 : decode b_S_pass 65 = .ok (.ireturn, 1) := by decide +kernel
theorem d_S_entry_0 : decode b_S_entry 0 = .ok (.iload_n 1, 1) := by decide +kernel
theorem d_S_entry_1 : decode b_S_entry 1 = .ok (.iconst 0, 1) := by decide +kernel
theorem d_S_entry_2 : decode b_S_entry 2 = .ok (.aload_n 0, 1) := by decide +kernel
theorem d_S_entry_3 : decode b_S_entry 3 = .ok (.getfield 33, 3) := by decide +kernel
theorem d_S_entry_6 : decode b_S_entry 6 = .ok (.getfield 164, 3) := by decide +kernel
theorem d_S_entry_9 : decode b_S_entry 9 = .ok (.iconst 1, 1) := by decide +kernel
theorem d_S_entry_10 : decode b_S_entry 10 = .ok (.isub, 1) := by decide +kernel
theorem d_S_entry_11 : decode b_S_entry 11 = .ok (.invokestatic 69, 3) := by decide +kernel
theorem d_S_entry_14 : decode b_S_entry 14 = .ok (.ifCond .ne 11, 3) := by decide +kernel
theorem d_S_entry_17 : decode b_S_entry 17 = .ok (.new 190, 3) := by decide +kernel
theorem d_S_entry_20 : decode b_S_entry 20 = .ok (.dup, 1) := by decide +kernel
theorem d_S_entry_21 : decode b_S_entry 21 = .ok (.invokespecial 192, 3) := by decide +kernel
theorem d_S_entry_24 : decode b_S_entry 24 = .ok (.athrow, 1) := by decide +kernel
theorem d_S_entry_25 : decode b_S_entry 25 = .ok (.iload_n 2, 1) := by decide +kernel
theorem d_S_entry_26 : decode b_S_entry 26 = .ok (.tableswitch 56 0 2 #[26, 36, 46], 26) := by decide +kernel
theorem d_S_entry_52 : decode b_S_entry 52 = .ok (.aload_n 0, 1) := by decide +kernel
theorem d_S_entry_53 : decode b_S_entry 53 = .ok (.getfield 33, 3) := by decide +kernel
theorem d_S_entry_56 : decode b_S_entry 56 = .ok (.getfield 193, 3) := by decide +kernel
theorem d_S_entry_59 : decode b_S_entry 59 = .ok (.iload_n 1, 1) := by decide +kernel
theorem d_S_entry_60 : decode b_S_entry 60 = .ok (.iaload, 1) := by decide +kernel
theorem d_S_entry_61 : decode b_S_entry 61 = .ok (.ireturn, 1) := by decide +kernel
theorem d_S_entry_62 : decode b_S_entry 62 = .ok (.aload_n 0, 1) := by decide +kernel
theorem d_S_entry_63 : decode b_S_entry 63 = .ok (.getfield 33, 3) := by decide +kernel
theorem d_S_entry_66 : decode b_S_entry 66 = .ok (.getfield 196, 3) := by decide +kernel
theorem d_S_entry_69 : decode b_S_entry 69 = .ok (.iload_n 1, 1) := by decide +kernel
theorem d_S_entry_70 : decode b_S_entry 70 = .ok (.iaload, 1) := by decide +kernel
theorem d_S_entry_71 : decode b_S_entry 71 = .ok (.ireturn, 1) := by decide +kernel
theorem d_S_entry_72 : decode b_S_entry 72 = .ok (.aload_n 0, 1) := by decide +kernel
theorem d_S_entry_73 : decode b_S_entry 73 = .ok (.getfield 33, 3) := by decide +kernel
theorem d_S_entry_76 : decode b_S_entry 76 = .ok (.getfield 199, 3) := by decide +kernel
theorem d_S_entry_79 : decode b_S_entry 79 = .ok (.iload_n 1, 1) := by decide +kernel
theorem d_S_entry_80 : decode b_S_entry 80 = .ok (.iaload, 1) := by decide +kernel
theorem d_S_entry_81 : decode b_S_entry 81 = .ok (.ireturn, 1) := by decide +kernel
theorem d_S_entry_82 : decode b_S_entry 82 = .ok (.new 54, 3) := by decide +kernel
theorem d_S_entry_85 : decode b_S_entry 85 = .ok (.dup, 1) := by decide +kernel
theorem d_S_entry_86 : decode b_S_entry 86 = .ok (.invokespecial 56, 3) := by decide +kernel
theorem d_S_entry_89 : decode b_S_entry 89 = .ok (.athrow, 1) := by decide +kernel
theorem d_S_certificate_0 : decode b_S_certificate 0 = .ok (.iload_n 1, 1) := by decide +kernel
theorem d_S_certificate_1 : decode b_S_certificate 1 = .ok (.invokestatic 65, 3) := by decide +kernel
theorem d_S_certificate_4 : decode b_S_certificate 4 = .ok (.iload_n 2, 1) := by decide +kernel
theorem d_S_certificate_5 : decode b_S_certificate 5 = .ok (.iconst 0, 1) := by decide +kernel
theorem d_S_certificate_6 : decode b_S_certificate 6 = .ok (.iconst 3, 1) := by decide +kernel
theorem d_S_certificate_7 : decode b_S_certificate 7 = .ok (.invokestatic 69, 3) := by decide +kernel
theorem d_S_certificate_10 : decode b_S_certificate 10 = .ok (.ifCond .eq 13, 3) := by decide +kernel
end DEC
end
section
section DEC
theorem d_S_certificate_13 : decode b_S_certificate 13 = .ok (.iload_n 3, 1) := by decide +kernel
theorem d_S_certificate_14 : decode b_S_certificate 14 = .ok (.iconst 0, 1) := by decide +kernel
theorem d_S_certificate_15 : decode b_S_certificate 15 = .ok (.bipush 6, 2) := by decide +kernel
theorem d_S_certificate_17 : decode b_S_certificate 17 = .ok (.invokestatic 69, 3) := by decide +kernel
theorem d_S_certificate_20 : decode b_S_certificate 20 = .ok (.ifCond .ne 11, 3) := by decide +kernel
theorem d_S_certificate_23 : decode b_S_certificate 23 = .ok (.new 54, 3) := by decide +kernel
theorem d_S_certificate_26 : decode b_S_certificate 26 = .ok (.dup, 1) := by decide +kernel
theorem d_S_certificate_27 : decode b_S_certificate 27 = .ok (.invokespecial 56, 3) := by decide +kernel
theorem d_S_certificate_30 : decode b_S_certificate 30 = .ok (.athrow, 1) := by decide +kernel
theorem d_S_certificate_31 : decode b_S_certificate 31 = .ok (.aload_n 0, 1) := by decide +kernel
theorem d_S_certificate_32 : decode b_S_certificate 32 = .ok (.iload_n 1, 1) := by decide +kernel
theorem d_S_certificate_33 : decode b_S_certificate 33 = .ok (.iload_n 2, 1) := by decide +kernel
theorem d_S_certificate_34 : decode b_S_certificate 34 = .ok (.invokevirtual 76, 3) := by decide +kernel
theorem d_S_certificate_37 : decode b_S_certificate 37 = .ok (.astore 4, 2) := by decide +kernel
theorem d_S_certificate_39 : decode b_S_certificate 39 = .ok (.aload 4, 2) := by decide +kernel
theorem d_S_certificate_41 : decode b_S_certificate 41 = .ok (.ifnonnull 11, 3) := by decide +kernel
theorem d_S_certificate_44 : decode b_S_certificate 44 = .ok (.new 190, 3) := by decide +kernel
theorem d_S_certificate_47 : decode b_S_certificate 47 = .ok (.dup, 1) := by decide +kernel
theorem d_S_certificate_48 : decode b_S_certificate 48 = .ok (.invokespecial 192, 3) := by decide +kernel
theorem d_S_certificate_51 : decode b_S_certificate 51 = .ok (.athrow, 1) := by decide +kernel
theorem d_S_certificate_52 : decode b_S_certificate 52 = .ok (.iload_n 3, 1) := by decide +kernel
theorem d_S_certificate_53 : decode b_S_certificate 53 = .ok (.tableswitch 75 0 5 #[39, 45, 51, 57, 63, 69], 39) := by decide +kernel
theorem d_S_certificate_92 : decode b_S_certificate 92 = .ok (.aload 4, 2) := by decide +kernel
theorem d_S_certificate_94 : decode b_S_certificate 94 = .ok (.getfield 202, 3) := by decide +kernel
theorem d_S_certificate_97 : decode b_S_certificate 97 = .ok (.ireturn, 1) := by decide +kernel
theorem d_S_certificate_98 : decode b_S_certificate 98 = .ok (.aload 4, 2) := by decide +kernel
theorem d_S_certificate_100 : decode b_S_certificate 100 = .ok (.getfield 205, 3) := by decide +kernel
theorem d_S_certificate_103 : decode b_S_certificate 103 = .ok (.ireturn, 1) := by decide +kernel
theorem d_S_certificate_104 : decode b_S_certificate 104 = .ok (.aload 4, 2) := by decide +kernel
theorem d_S_certificate_106 : decode b_S_certificate 106 = .ok (.getfield 131, 3) := by decide +kernel
theorem d_S_certificate_109 : decode b_S_certificate 109 = .ok (.ireturn, 1) := by decide +kernel
theorem d_S_certificate_110 : decode b_S_certificate 110 = .ok (.aload 4, 2) := by decide +kernel
theorem d_S_certificate_112 : decode b_S_certificate 112 = .ok (.getfield 208, 3) := by decide +kernel
theorem d_S_certificate_115 : decode b_S_certificate 115 = .ok (.ireturn, 1) := by decide +kernel
theorem d_S_certificate_116 : decode b_S_certificate 116 = .ok (.aload 4, 2) := by decide +kernel
theorem d_S_certificate_118 : decode b_S_certificate 118 = .ok (.getfield 211, 3) := by decide +kernel
theorem d_S_certificate_121 : decode b_S_certificate 121 = .ok (.ireturn, 1) := by decide +kernel
theorem d_S_certificate_122 : decode b_S_certificate 122 = .ok (.aload 4, 2) := by decide +kernel
theorem d_S_certificate_124 : decode b_S_certificate 124 = .ok (.getfield 214, 3) := by decide +kernel
theorem d_S_certificate_127 : decode b_S_certificate 127 = .ok (.ireturn, 1) := by decide +kernel
theorem d_S_certificate_128 : decode b_S_certificate 128 = .ok (.aload_n 0, 1) := by decide +kernel
theorem d_S_certificate_129 : decode b_S_certificate 129 = .ok (.aload 4, 2) := by decide +kernel
theorem d_S_certificate_131 : decode b_S_certificate 131 = .ok (.invokevirtual 217, 3) := by decide +kernel
theorem d_S_certificate_134 : decode b_S_certificate 134 = .ok (.invokestatic 221, 3) := by decide +kernel
theorem d_S_certificate_137 : decode b_S_certificate 137 = .ok (.ireturn, 1) := by decide +kernel
theorem d_S_count_0 : decode b_S_count 0 = .ok (.iload_n 1, 1) := by decide +kernel
theorem d_S_count_1 : decode b_S_count 1 = .ok (.tableswitch 135 0 10 #[59, 67, 72, 77, 85, 93, 101, 112, 120, 125, 130], 59) := by decide +kernel
theorem d_S_count_60 : decode b_S_count 60 = .ok (.aload_n 0, 1) := by decide +kernel
theorem d_S_count_61 : decode b_S_count 61 = .ok (.getfield 87, 3) := by decide +kernel
theorem d_S_count_64 : decode b_S_count 64 = .ok (.invokestatic 221, 3) := by decide +kernel
theorem d_S_count_67 : decode b_S_count 67 = .ok (.ireturn, 1) := by decide +kernel
theorem d_S_count_68 : decode b_S_count 68 = .ok (.aload_n 0, 1) := by decide +kernel
theorem d_S_count_69 : decode b_S_count 69 = .ok (.getfield 37, 3) := by decide +kernel
theorem d_S_count_72 : decode b_S_count 72 = .ok (.ireturn, 1) := by decide +kernel
theorem d_S_count_73 : decode b_S_count 73 = .ok (.aload_n 0, 1) := by decide +kernel
theorem d_S_count_74 : decode b_S_count 74 = .ok (.getfield 47, 3) := by decide +kernel
theorem d_S_count_77 : decode b_S_count 77 = .ok (.ireturn, 1) := by decide +kernel
theorem d_S_count_78 : decode b_S_count 78 = .ok (.aload_n 0, 1) := by decide +kernel
theorem d_S_count_79 : decode b_S_count 79 = .ok (.invokevirtual 176, 3) := by decide +kernel
theorem d_S_count_82 : decode b_S_count 82 = .ok (.invokestatic 221, 3) := by decide +kernel
theorem d_S_count_85 : decode b_S_count 85 = .ok (.ireturn, 1) := by decide +kernel
theorem d_S_count_86 : decode b_S_count 86 = .ok (.aload_n 0, 1) := by decide +kernel
theorem d_S_count_87 : decode b_S_count 87 = .ok (.getfield 173, 3) := by decide +kernel
theorem d_S_count_90 : decode b_S_count 90 = .ok (.invokestatic 221, 3) := by decide +kernel
theorem d_S_count_93 : decode b_S_count 93 = .ok (.ireturn, 1) := by decide +kernel
theorem d_S_count_94 : decode b_S_count 94 = .ok (.aload_n 0, 1) := by decide +kernel
theorem d_S_count_95 : decode b_S_count 95 = .ok (.invokevirtual 225, 3) := by decide +kernel
theorem d_S_count_98 : decode b_S_count 98 = .ok (.invokestatic 221, 3) := by decide +kernel
theorem d_S_count_101 : decode b_S_count 101 = .ok (.ireturn, 1) := by decide +kernel
theorem d_S_count_102 : decode b_S_count 102 = .ok (.aload_n 0, 1) := by decide +kernel
theorem d_S_count_103 : decode b_S_count 103 = .ok (.getfield 33, 3) := by decide +kernel
theorem d_S_count_106 : decode b_S_count 106 = .ok (.getfield 228, 3) := by decide +kernel
theorem d_S_count_109 : decode b_S_count 109 = .ok (.invokestatic 221, 3) := by decide +kernel
theorem d_S_count_112 : decode b_S_count 112 = .ok (.ireturn, 1) := by decide +kernel
theorem d_S_count_113 : decode b_S_count 113 = .ok (.aload_n 0, 1) := by decide +kernel
theorem d_S_count_114 : decode b_S_count 114 = .ok (.getfield 33, 3) := by decide +kernel
theorem d_S_count_117 : decode b_S_count 117 = .ok (.getfield 164, 3) := by decide +kernel
theorem d_S_count_120 : decode b_S_count 120 = .ok (.ireturn, 1) := by decide +kernel
theorem d_S_count_121 : decode b_S_count 121 = .ok (.aload_n 0, 1) := by decide +kernel
theorem d_S_count_122 : decode b_S_count 122 = .ok (.getfield 101, 3) := by decide +kernel
theorem d_S_count_125 : decode b_S_count 125 = .ok (.ireturn, 1) := by decide +kernel
theorem d_S_count_126 : decode b_S_count 126 = .ok (.aload_n 0, 1) := by decide +kernel
theorem d_S_count_127 : decode b_S_count 127 = .ok (.getfield 41, 3) := by decide +kernel
theorem d_S_count_130 : decode b_S_count 130 = .ok (.ireturn, 1) := by decide +kernel
theorem d_S_count_131 : decode b_S_count 131 = .ok (.aload_n 0, 1) := by decide +kernel
theorem d_S_count_132 : decode b_S_count 132 = .ok (.getfield 44, 3) := by decide +kernel
theorem d_S_count_135 : decode b_S_count 135 = .ok (.ireturn, 1) := by decide +kernel
theorem d_S_count_136 : decode b_S_count 136 = .ok (.new 54, 3) := by decide +kernel
theorem d_S_count_139 : decode b_S_count 139 = .ok (.dup, 1) := by decide +kernel
theorem d_S_count_140 : decode b_S_count 140 = .ok (.invokespecial 56, 3) := by decide +kernel
theorem d_S_count_143 : decode b_S_count 143 = .ok (.athrow, 1) := by decide +kernel
theorem d_S_isWithin_0 : decode b_S_isWithin 0 = .ok (.iload_n 0, 1) := by decide +kernel
theorem d_S_isWithin_1 : decode b_S_isWithin 1 = .ok (.iload_n 1, 1) := by decide +kernel
theorem d_S_isWithin_2 : decode b_S_isWithin 2 = .ok (.if_icmp .lt 12, 3) := by decide +kernel
theorem d_S_isWithin_5 : decode b_S_isWithin 5 = .ok (.iload_n 0, 1) := by decide +kernel
theorem d_S_isWithin_6 : decode b_S_isWithin 6 = .ok (.iload_n 2, 1) := by decide +kernel
theorem d_S_isWithin_7 : decode b_S_isWithin 7 = .ok (.if_icmp .gt 7, 3) := by decide +kernel
theorem d_S_isWithin_10 : decode b_S_isWithin 10 = .ok (.iconst 1, 1) := by decide +kernel
theorem d_S_isWithin_11 : decode b_S_isWithin 11 = .ok (.goto 4, 3) := by decide +kernel
theorem d_S_isWithin_14 : decode b_S_isWithin 14 = .ok (.iconst 0, 1) := by decide +kernel
theorem d_S_isWithin_15 : decode b_S_isWithin 15 = .ok (.ireturn, 1) := by decide +kernel
theorem d_S_asNumber_0 : decode b_S_asNumber 0 = .ok (.iload_n 0, 1) := by decide +kernel
theorem d_S_asNumber_1 : decode b_S_asNumber 1 = .ok (.ifCond .eq 7, 3) := by decide +kernel
theorem d_S_asNumber_4 : decode b_S_asNumber 4 = .ok (.iconst 1, 1) := by decide +kernel
theorem d_S_asNumber_5 : decode b_S_asNumber 5 = .ok (.goto 4, 3) := by decide +kernel
theorem d_S_asNumber_8 : decode b_S_asNumber 8 = .ok (.iconst 0, 1) := by decide +kernel
theorem d_S_asNumber_9 : decode b_S_asNumber 9 = .ok (.ireturn, 1) := by decide +kernel
theorem d_S_areCertificateNumbers_0 : decode b_S_areCertificateNumbers 0 = .ok (.iload_n 0, 1) := by decide +kernel
theorem d_S_areCertificateNumbers_1 : decode b_S_areCertificateNumbers 1 = .ok (.iconst 0, 1) := by decide +kernel
theorem d_S_areCertificateNumbers_2 : decode b_S_areCertificateNumbers 2 = .ok (.iconst 3, 1) := by decide +kernel
theorem d_S_areCertificateNumbers_3 : decode b_S_areCertificateNumbers 3 = .ok (.invokestatic 69, 3) := by decide +kernel
theorem d_S_areCertificateNumbers_6 : decode b_S_areCertificateNumbers 6 = .ok (.ifCond .eq 59, 3) := by decide +kernel
theorem d_S_areCertificateNumbers_9 : decode b_S_areCertificateNumbers 9 = .ok (.iload_n 1, 1) := by decide +kernel
theorem d_S_areCertificateNumbers_10 : decode b_S_areCertificateNumbers 10 = .ok (.iconst 0, 1) := by decide +kernel
theorem d_S_areCertificateNumbers_11 : decode b_S_areCertificateNumbers 11 = .ok (.bipush 6, 2) := by decide +kernel
theorem d_S_areCertificateNumbers_13 : decode b_S_areCertificateNumbers 13 = .ok (.invokestatic 69, 3) := by decide +kernel
theorem d_S_areCertificateNumbers_16 : decode b_S_areCertificateNumbers 16 = .ok (.ifCond .eq 49, 3) := by decide +kernel
theorem d_S_areCertificateNumbers_19 : decode b_S_areCertificateNumbers 19 = .ok (.iload_n 2, 1) := by decide +kernel
theorem d_S_areCertificateNumbers_20 : decode b_S_areCertificateNumbers 20 = .ok (.iconst 0, 1) := by decide +kernel
theorem d_S_areCertificateNumbers_21 : decode b_S_areCertificateNumbers 21 = .ok (.bipush 99, 2) := by decide +kernel
theorem d_S_areCertificateNumbers_23 : decode b_S_areCertificateNumbers 23 = .ok (.invokestatic 69, 3) := by decide +kernel
theorem d_S_areCertificateNumbers_26 : decode b_S_areCertificateNumbers 26 = .ok (.ifCond .eq 39, 3) := by decide +kernel
theorem d_S_areCertificateNumbers_29 : decode b_S_areCertificateNumbers 29 = .ok (.iload_n 3, 1) := by decide +kernel
theorem d_S_areCertificateNumbers_30 : decode b_S_areCertificateNumbers 30 = .ok (.iconst 0, 1) := by decide +kernel
theorem d_S_areCertificateNumbers_31 : decode b_S_areCertificateNumbers 31 = .ok (.ldc 130, 2) := by decide +kernel
theorem d_S_areCertificateNumbers_33 : decode b_S_areCertificateNumbers 33 = .ok (.invokestatic 69, 3) := by decide +kernel
theorem d_S_areCertificateNumbers_36 : decode b_S_areCertificateNumbers 36 = .ok (.ifCond .eq 29, 3) := by decide +kernel
theorem d_S_areCertificateNumbers_39 : decode b_S_areCertificateNumbers 39 = .ok (.iload 4, 2) := by decide +kernel
theorem d_S_areCertificateNumbers_41 : decode b_S_areCertificateNumbers 41 = .ok (.iconst 0, 1) := by decide +kernel
theorem d_S_areCertificateNumbers_42 : decode b_S_areCertificateNumbers 42 = .ok (.ldc 183, 2) := by decide +kernel
theorem d_S_areCertificateNumbers_44 : decode b_S_areCertificateNumbers 44 = .ok (.invokestatic 69, 3) := by decide +kernel
theorem d_S_areCertificateNumbers_47 : decode b_S_areCertificateNumbers 47 = .ok (.ifCond .eq 18, 3) := by decide +kernel
theorem d_S_areCertificateNumbers_50 : decode b_S_areCertificateNumbers 50 = .ok (.iload 5, 2) := by decide +kernel
theorem d_S_areCertificateNumbers_52 : decode b_S_areCertificateNumbers 52 = .ok (.iconst 0, 1) := by decide +kernel
theorem d_S_areCertificateNumbers_53 : decode b_S_areCertificateNumbers 53 = .ok (.ldc 183, 2) := by decide +kernel
theorem d_S_areCertificateNumbers_55 : decode b_S_areCertificateNumbers 55 = .ok (.invokestatic 69, 3) := by decide +kernel
theorem d_S_areCertificateNumbers_58 : decode b_S_areCertificateNumbers 58 = .ok (.ifCond .eq 7, 3) := by decide +kernel
theorem d_S_areCertificateNumbers_61 : decode b_S_areCertificateNumbers 61 = .ok (.iconst 1, 1) := by decide +kernel
theorem d_S_areCertificateNumbers_62 : decode b_S_areCertificateNumbers 62 = .ok (.goto 4, 3) := by decide +kernel
theorem d_S_areCertificateNumbers_65 : decode b_S_areCertificateNumbers 65 = .ok (.iconst 0, 1) := by decide +kernel
theorem d_S_areCertificateNumbers_66 : decode b_S_areCertificateNumbers 66 = .ok (.ireturn, 1) := by decide +kernel
theorem d_S_requireToken_0 : decode b_S_requireToken 0 = .ok (.iload_n 0, 1) := by decide +kernel
theorem d_S_requireToken_1 : decode b_S_requireToken 1 = .ok (.iconst 0, 1) := by decide +kernel
theorem d_S_requireToken_2 : decode b_S_requireToken 2 = .ok (.iconst 5, 1) := by decide +kernel
theorem d_S_requireToken_3 : decode b_S_requireToken 3 = .ok (.invokestatic 69, 3) := by decide +kernel
theorem d_S_requireToken_6 : decode b_S_requireToken 6 = .ok (.ifCond .ne 11, 3) := by decide +kernel
theorem d_S_requireToken_9 : decode b_S_requireToken 9 = .ok (.new 190, 3) := by decide +kernel
theorem d_S_requireToken_12 : decode b_S_requireToken 12 = .ok (.dup, 1) := by decide +kernel
theorem d_S_requireToken_13 : decode b_S_requireToken 13 = .ok (.invokespecial 192, 3) := by decide +kernel
theorem d_S_requireToken_16 : decode b_S_requireToken 16 = .ok (.athrow, 1) := by decide +kernel
theorem d_S_requireToken_17 : decode b_S_requireToken 17 = .ok (.return_, 1) := by decide +kernel
theorem d_S_requireEmpty_0 : decode b_S_requireEmpty 0 = .ok (.iload_n 0, 1) := by decide +kernel
theorem d_S_requireEmpty_1 : decode b_S_requireEmpty 1 = .ok (.iconst (-1), 1) := by decide +kernel
theorem d_S_requireEmpty_2 : decode b_S_requireEmpty 2 = .ok (.if_icmp .eq 11, 3) := by decide +kernel
theorem d_S_requireEmpty_5 : decode b_S_requireEmpty 5 = .ok (.new 91, 3) := by decide +kernel
theorem d_S_requireEmpty_8 : decode b_S_requireEmpty 8 = .ok (.dup, 1) := by decide +kernel
theorem d_S_requireEmpty_9 : decode b_S_requireEmpty 9 = .ok (.invokespecial 93, 3) := by decide +kernel
theorem d_S_requireEmpty_12 : decode b_S_requireEmpty 12 = .ok (.athrow, 1) := by decide +kernel
theorem d_S_requireEmpty_13 : decode b_S_requireEmpty 13 = .ok (.return_, 1) := by decide +kernel
theorem d_S_requireFilled_0 : decode b_S_requireFilled 0 = .ok (.iload_n 0, 1) := by decide +kernel
theorem d_S_requireFilled_1 : decode b_S_requireFilled 1 = .ok (.iconst (-1), 1) := by decide +kernel
theorem d_S_requireFilled_2 : decode b_S_requireFilled 2 = .ok (.if_icmp .ne 11, 3) := by decide +kernel
theorem d_S_requireFilled_5 : decode b_S_requireFilled 5 = .ok (.new 91, 3) := by decide +kernel
theorem d_S_requireFilled_8 : decode b_S_requireFilled 8 = .ok (.dup, 1) := by decide +kernel
theorem d_S_requireFilled_9 : decode b_S_requireFilled 9 = .ok (.invokespecial 93, 3) := by decide +kernel
theorem d_S_requireFilled_12 : decode b_S_requireFilled 12 = .ok (.athrow, 1) := by decide +kernel
theorem d_S_requireFilled_13 : decode b_S_requireFilled 13 = .ok (.return_, 1) := by decide +kernel
theorem d_S_requireInNoReader_0 : decode b_S_requireInNoReader 0 = .ok (.iload_n 1, 1) := by decide +kernel
theorem d_S_requireInNoReader_1 : decode b_S_requireInNoReader 1 = .ok (.aload_n 0, 1) := by decide +kernel
theorem d_S_requireInNoReader_2 : decode b_S_requireInNoReader 2 = .ok (.getfield 41, 3) := by decide +kernel
theorem d_S_requireInNoReader_5 : decode b_S_requireInNoReader 5 = .ok (.if_icmp .eq 11, 3) := by decide +kernel
theorem d_S_requireInNoReader_8 : decode b_S_requireInNoReader 8 = .ok (.iload_n 1, 1) := by decide +kernel
theorem d_S_requireInNoReader_9 : decode b_S_requireInNoReader 9 = .ok (.aload_n 0, 1) := by decide +kernel
theorem d_S_requireInNoReader_10 : decode b_S_requireInNoReader 10 = .ok (.getfield 44, 3) := by decide +kernel
theorem d_S_requireInNoReader_13 : decode b_S_requireInNoReader 13 = .ok (.if_icmp .ne 11, 3) := by decide +kernel
theorem d_S_requireInNoReader_16 : decode b_S_requireInNoReader 16 = .ok (.new 91, 3) := by decide +kernel
theorem d_S_requireInNoReader_19 : decode b_S_requireInNoReader 19 = .ok (.dup, 1) := by decide +kernel
theorem d_S_requireInNoReader_20 : decode b_S_requireInNoReader 20 = .ok (.invokespecial 93, 3) := by decide +kernel
theorem d_S_requireInNoReader_23 : decode b_S_requireInNoReader 23 = .ok (.athrow, 1) := by decide +kernel
theorem d_S_requireInNoReader_24 : decode b_S_requireInNoReader 24 = .ok (.return_, 1) := by decide +kernel
theorem d_S_requireUp_0 : decode b_S_requireUp 0 = .ok (.aload_n 0, 1) := by decide +kernel
theorem d_S_requireUp_1 : decode b_S_requireUp 1 = .ok (.getfield 87, 3) := by decide +kernel
theorem d_S_requireUp_4 : decode b_S_requireUp 4 = .ok (.ifCond .ne 11, 3) := by decide +kernel
theorem d_S_requireUp_7 : decode b_S_requireUp 7 = .ok (.new 91, 3) := by decide +kernel
theorem d_S_requireUp_10 : decode b_S_requireUp 10 = .ok (.dup, 1) := by decide +kernel
theorem d_S_requireUp_11 : decode b_S_requireUp 11 = .ok (.invokespecial 93, 3) := by decide +kernel
theorem d_S_requireUp_14 : decode b_S_requireUp 14 = .ok (.athrow, 1) := by decide +kernel
theorem d_S_requireUp_15 : decode b_S_requireUp 15 = .ok (.return_, 1) := by decide +kernel
theorem d_S_requireAdministrator_0 : decode b_S_requireAdministrator 0 = .ok (.aload_n 0, 1) := by decide +kernel
theorem d_S_requireAdministrator_1 : decode b_S_requireAdministrator 1 = .ok (.getfield 47, 3) := by decide +kernel
theorem d_S_requireAdministrator_4 : decode b_S_requireAdministrator 4 = .ok (.ifCond .ne 11, 3) := by decide +kernel
theorem d_S_requireAdministrator_7 : decode b_S_requireAdministrator 7 = .ok (.new 91, 3) := by decide +kernel
theorem d_S_requireAdministrator_10 : decode b_S_requireAdministrator 10 = .ok (.dup, 1) := by decide +kernel
theorem d_S_requireAdministrator_11 : decode b_S_requireAdministrator 11 = .ok (.invokespecial 93, 3) := by decide +kernel
theorem d_S_requireAdministrator_14 : decode b_S_requireAdministrator 14 = .ok (.athrow, 1) := by decide +kernel
theorem d_S_requireAdministrator_15 : decode b_S_requireAdministrator 15 = .ok (.return_, 1) := by decide +kernel
theorem d_S_requireRole_0 : decode b_S_requireRole 0 = .ok (.aload_n 0, 1) := by decide +kernel
theorem d_S_requireRole_1 : decode b_S_requireRole 1 = .ok (.getfield 47, 3) := by decide +kernel
theorem d_S_requireRole_4 : decode b_S_requireRole 4 = .ok (.iload_n 1, 1) := by decide +kernel
theorem d_S_requireRole_5 : decode b_S_requireRole 5 = .ok (.if_icmp .eq 11, 3) := by decide +kernel
theorem d_S_requireRole_8 : decode b_S_requireRole 8 = .ok (.new 231, 3) := by decide +kernel
theorem d_S_requireRole_11 : decode b_S_requireRole 11 = .ok (.dup, 1) := by decide +kernel
theorem d_S_requireRole_12 : decode b_S_requireRole 12 = .ok (.invokespecial 233, 3) := by decide +kernel
theorem d_S_requireRole_15 : decode b_S_requireRole 15 = .ok (.athrow, 1) := by decide +kernel
theorem d_S_requireRole_16 : decode b_S_requireRole 16 = .ok (.return_, 1) := by decide +kernel
theorem d_S_isEnrolled_0 : decode b_S_isEnrolled 0 = .ok (.aload_n 0, 1) := by decide +kernel
theorem d_S_isEnrolled_1 : decode b_S_isEnrolled 1 = .ok (.getfield 21, 3) := by decide +kernel
theorem d_S_isEnrolled_4 : decode b_S_isEnrolled 4 = .ok (.iload_n 1, 1) := by decide +kernel
theorem d_S_isEnrolled_5 : decode b_S_isEnrolled 5 = .ok (.iaload, 1) := by decide +kernel
theorem d_S_isEnrolled_6 : decode b_S_isEnrolled 6 = .ok (.ifCond .eq 7, 3) := by decide +kernel
theorem d_S_isEnrolled_9 : decode b_S_isEnrolled 9 = .ok (.iconst 1, 1) := by decide +kernel
theorem d_S_isEnrolled_10 : decode b_S_isEnrolled 10 = .ok (.goto 4, 3) := by decide +kernel
theorem d_S_isEnrolled_13 : decode b_S_isEnrolled 13 = .ok (.iconst 0, 1) := by decide +kernel
theorem d_S_isEnrolled_14 : decode b_S_isEnrolled 14 = .ok (.ireturn, 1) := by decide +kernel
theorem d_S_enrolledIssuers_0 : decode b_S_enrolledIssuers 0 = .ok (.iconst 0, 1) := by decide +kernel
theorem d_S_enrolledIssuers_1 : decode b_S_enrolledIssuers 1 = .ok (.istore_n 1, 1) := by decide +kernel
theorem d_S_enrolledIssuers_2 : decode b_S_enrolledIssuers 2 = .ok (.iconst 0, 1) := by decide +kernel
theorem d_S_enrolledIssuers_3 : decode b_S_enrolledIssuers 3 = .ok (.istore_n 2, 1) := by decide +kernel
theorem d_S_enrolledIssuers_4 : decode b_S_enrolledIssuers 4 = .ok (.iload_n 2, 1) := by decide +kernel
theorem d_S_enrolledIssuers_5 : decode b_S_enrolledIssuers 5 = .ok (.bipush 6, 2) := by decide +kernel
theorem d_S_enrolledIssuers_7 : decode b_S_enrolledIssuers 7 = .ok (.if_icmp .ge 20, 3) := by decide +kernel
theorem d_S_enrolledIssuers_10 : decode b_S_enrolledIssuers 10 = .ok (.aload_n 0, 1) := by decide +kernel
theorem d_S_enrolledIssuers_11 : decode b_S_enrolledIssuers 11 = .ok (.iload_n 2, 1) := by decide +kernel
theorem d_S_enrolledIssuers_12 : decode b_S_enrolledIssuers 12 = .ok (.invokevirtual 57, 3) := by decide +kernel
theorem d_S_enrolledIssuers_15 : decode b_S_enrolledIssuers 15 = .ok (.ifCond .eq 6, 3) := by decide +kernel
theorem d_S_enrolledIssuers_18 : decode b_S_enrolledIssuers 18 = .ok (.iinc 1 1, 3) := by decide +kernel
theorem d_S_enrolledIssuers_21 : decode b_S_enrolledIssuers 21 = .ok (.iinc 2 1, 3) := by decide +kernel
theorem d_S_enrolledIssuers_24 : decode b_S_enrolledIssuers 24 = .ok (.goto (-20), 3) := by decide +kernel
theorem d_S_enrolledIssuers_27 : decode b_S_enrolledIssuers 27 = .ok (.iload_n 1, 1) := by decide +kernel
theorem d_S_enrolledIssuers_28 : decode b_S_enrolledIssuers 28 = .ok (.ireturn, 1) := by decide +kernel
theorem d_S_rightSignature_0 : decode b_S_rightSignature 0 = .ok (.iload_n 1, 1) := by decide +kernel
theorem d_S_rightSignature_1 : decode b_S_rightSignature 1 = .ok (.bipush 100, 2) := by decide +kernel
theorem d_S_rightSignature_3 : decode b_S_rightSignature 3 = .ok (.imul, 1) := by decide +kernel
theorem d_S_rightSignature_4 : decode b_S_rightSignature 4 = .ok (.iload_n 3, 1) := by decide +kernel
theorem d_S_rightSignature_5 : decode b_S_rightSignature 5 = .ok (.iadd, 1) := by decide +kernel
theorem d_S_rightSignature_6 : decode b_S_rightSignature 6 = .ok (.ldc 234, 2) := by decide +kernel
theorem d_S_rightSignature_8 : decode b_S_rightSignature 8 = .ok (.imul, 1) := by decide +kernel
theorem d_S_rightSignature_9 : decode b_S_rightSignature 9 = .ok (.iload 4, 2) := by decide +kernel
theorem d_S_rightSignature_11 : decode b_S_rightSignature 11 = .ok (.iadd, 1) := by decide +kernel
theorem d_S_rightSignature_12 : decode b_S_rightSignature 12 = .ok (.sipush 9973, 3) := by decide +kernel
theorem d_S_rightSignature_15 : decode b_S_rightSignature 15 = .ok (.irem, 1) := by decide +kernel
theorem d_S_rightSignature_16 : decode b_S_rightSignature 16 = .ok (.iload 5, 2) := by decide +kernel
theorem d_S_rightSignature_18 : decode b_S_rightSignature 18 = .ok (.bipush 31, 2) := by decide +kernel
theorem d_S_rightSignature_20 : decode b_S_rightSignature 20 = .ok (.imul, 1) := by decide +kernel
theorem d_S_rightSignature_21 : decode b_S_rightSignature 21 = .ok (.iadd, 1) := by decide +kernel
theorem d_S_rightSignature_22 : decode b_S_rightSignature 22 = .ok (.iload 6, 2) := by decide +kernel
theorem d_S_rightSignature_24 : decode b_S_rightSignature 24 = .ok (.bipush 37, 2) := by decide +kernel
theorem d_S_rightSignature_26 : decode b_S_rightSignature 26 = .ok (.imul, 1) := by decide +kernel
theorem d_S_rightSignature_27 : decode b_S_rightSignature 27 = .ok (.iadd, 1) := by decide +kernel
theorem d_S_rightSignature_28 : decode b_S_rightSignature 28 = .ok (.iconst 1, 1) := by decide +kernel
theorem d_S_rightSignature_29 : decode b_S_rightSignature 29 = .ok (.iadd, 1) := by decide +kernel
theorem d_S_rightSignature_30 : decode b_S_rightSignature 30 = .ok (.istore 7, 2) := by decide +kernel
theorem d_S_rightSignature_32 : decode b_S_rightSignature 32 = .ok (.iload 7, 2) := by decide +kernel
theorem d_S_rightSignature_34 : decode b_S_rightSignature 34 = .ok (.i2l, 1) := by decide +kernel
theorem d_S_rightSignature_35 : decode b_S_rightSignature 35 = .ok (.aload_n 0, 1) := by decide +kernel
theorem d_S_rightSignature_36 : decode b_S_rightSignature 36 = .ok (.getfield 21, 3) := by decide +kernel
theorem d_S_rightSignature_39 : decode b_S_rightSignature 39 = .ok (.iload_n 2, 1) := by decide +kernel
theorem d_S_rightSignature_40 : decode b_S_rightSignature 40 = .ok (.iaload, 1) := by decide +kernel
theorem d_S_rightSignature_41 : decode b_S_rightSignature 41 = .ok (.i2l, 1) := by decide +kernel
theorem d_S_rightSignature_42 : decode b_S_rightSignature 42 = .ok (.lmul, 1) := by decide +kernel
theorem d_S_rightSignature_43 : decode b_S_rightSignature 43 = .ok (.ldc2_w 235, 3) := by decide +kernel
theorem d_S_rightSignature_46 : decode b_S_rightSignature 46 = .ok (.lrem, 1) := by decide +kernel
theorem d_S_rightSignature_47 : decode b_S_rightSignature 47 = .ok (.l2i, 1) := by decide +kernel
theorem d_S_rightSignature_48 : decode b_S_rightSignature 48 = .ok (.ireturn, 1) := by decide +kernel
theorem d_S_certificateOf_0 : decode b_S_certificateOf 0 = .ok (.iload_n 1, 1) := by decide +kernel
theorem d_S_certificateOf_1 : decode b_S_certificateOf 1 = .ok (.iconst (-1), 1) := by decide +kernel
theorem d_S_certificateOf_2 : decode b_S_certificateOf 2 = .ok (.if_icmp .ne 7, 3) := by decide +kernel
theorem d_S_certificateOf_5 : decode b_S_certificateOf 5 = .ok (.aconst_null, 1) := by decide +kernel
theorem d_S_certificateOf_6 : decode b_S_certificateOf 6 = .ok (.goto 13, 3) := by decide +kernel
theorem d_S_certificateOf_9 : decode b_S_certificateOf 9 = .ok (.aload_n 0, 1) := by decide +kernel
theorem d_S_certificateOf_10 : decode b_S_certificateOf 10 = .ok (.getfield 26, 3) := by decide +kernel
theorem d_S_certificateOf_13 : decode b_S_certificateOf 13 = .ok (.iload_n 1, 1) := by decide +kernel
theorem d_S_certificateOf_14 : decode b_S_certificateOf 14 = .ok (.iconst 4, 1) := by decide +kernel
theorem d_S_certificateOf_15 : decode b_S_certificateOf 15 = .ok (.imul, 1) := by decide +kernel
theorem d_S_certificateOf_16 : decode b_S_certificateOf 16 = .ok (.iload_n 2, 1) := by decide +kernel
theorem d_S_certificateOf_17 : decode b_S_certificateOf 17 = .ok (.iadd, 1) := by decide +kernel
theorem d_S_certificateOf_18 : decode b_S_certificateOf 18 = .ok (.aaload, 1) := by decide +kernel
theorem d_S_certificateOf_19 : decode b_S_certificateOf 19 = .ok (.areturn, 1) := by decide +kernel
theorem d_S_give_0 : decode b_S_give 0 = .ok (.aload_n 0, 1) := by decide +kernel
theorem d_S_give_1 : decode b_S_give 1 = .ok (.getfield 26, 3) := by decide +kernel
theorem d_S_give_4 : decode b_S_give 4 = .ok (.iload_n 1, 1) := by decide +kernel
theorem d_S_give_5 : decode b_S_give 5 = .ok (.iconst 4, 1) := by decide +kernel
theorem d_S_give_6 : decode b_S_give 6 = .ok (.imul, 1) := by decide +kernel
theorem d_S_give_7 : decode b_S_give 7 = .ok (.aload_n 2, 1) := by decide +kernel
theorem d_S_give_8 : decode b_S_give 8 = .ok (.getfield 237, 3) := by decide +kernel
theorem d_S_give_11 : decode b_S_give 11 = .ok (.iadd, 1) := by decide +kernel
theorem d_S_give_12 : decode b_S_give 12 = .ok (.aload_n 2, 1) := by decide +kernel
theorem d_S_give_13 : decode b_S_give 13 = .ok (.aastore, 1) := by decide +kernel
theorem d_S_give_14 : decode b_S_give 14 = .ok (.return_, 1) := by decide +kernel
theorem d_S_isValid_0 : decode b_S_isValid 0 = .ok (.aload_n 1, 1) := by decide +kernel
theorem d_S_isValid_1 : decode b_S_isValid 1 = .ok (.ifnull 78, 3) := by decide +kernel
theorem d_S_isValid_4 : decode b_S_isValid 4 = .ok (.aload_n 0, 1) := by decide +kernel
theorem d_S_isValid_5 : decode b_S_isValid 5 = .ok (.aload_n 1, 1) := by decide +kernel
theorem d_S_isValid_6 : decode b_S_isValid 6 = .ok (.getfield 202, 3) := by decide +kernel
theorem d_S_isValid_9 : decode b_S_isValid 9 = .ok (.invokevirtual 57, 3) := by decide +kernel
theorem d_S_isValid_12 : decode b_S_isValid 12 = .ok (.ifCond .eq 67, 3) := by decide +kernel
theorem d_S_isValid_15 : decode b_S_isValid 15 = .ok (.aload_n 0, 1) := by decide +kernel
theorem d_S_isValid_16 : decode b_S_isValid 16 = .ok (.getfield 101, 3) := by decide +kernel
theorem d_S_isValid_19 : decode b_S_isValid 19 = .ok (.aload_n 1, 1) := by decide +kernel
theorem d_S_isValid_20 : decode b_S_isValid 20 = .ok (.getfield 208, 3) := by decide +kernel
theorem d_S_isValid_23 : decode b_S_isValid 23 = .ok (.aload_n 1, 1) := by decide +kernel
theorem d_S_isValid_24 : decode b_S_isValid 24 = .ok (.getfield 211, 3) := by decide +kernel
theorem d_S_isValid_27 : decode b_S_isValid 27 = .ok (.invokestatic 69, 3) := by decide +kernel
theorem d_S_isValid_30 : decode b_S_isValid 30 = .ok (.ifCond .eq 49, 3) := by decide +kernel
theorem d_S_isValid_33 : decode b_S_isValid 33 = .ok (.aload_n 1, 1) := by decide +kernel
theorem d_S_isValid_34 : decode b_S_isValid 34 = .ok (.invokevirtual 240, 3) := by decide +kernel
theorem d_S_isValid_37 : decode b_S_isValid 37 = .ok (.ifCond .eq 42, 3) := by decide +kernel
theorem d_S_isValid_40 : decode b_S_isValid 40 = .ok (.aload_n 1, 1) := by decide +kernel
theorem d_S_isValid_41 : decode b_S_isValid 41 = .ok (.getfield 214, 3) := by decide +kernel
theorem d_S_isValid_44 : decode b_S_isValid 44 = .ok (.aload_n 0, 1) := by decide +kernel
theorem d_S_isValid_45 : decode b_S_isValid 45 = .ok (.aload_n 1, 1) := by decide +kernel
theorem d_S_isValid_46 : decode b_S_isValid 46 = .ok (.getfield 237, 3) := by decide +kernel
theorem d_S_isValid_49 : decode b_S_isValid 49 = .ok (.aload_n 1, 1) := by decide +kernel
theorem d_S_isValid_50 : decode b_S_isValid 50 = .ok (.getfield 202, 3) := by decide +kernel
theorem d_S_isValid_53 : decode b_S_isValid 53 = .ok (.aload_n 1, 1) := by decide +kernel
theorem d_S_isValid_54 : decode b_S_isValid 54 = .ok (.getfield 205, 3) := by decide +kernel
theorem d_S_isValid_57 : decode b_S_isValid 57 = .ok (.aload_n 1, 1) := by decide +kernel
theorem d_S_isValid_58 : decode b_S_isValid 58 = .ok (.getfield 131, 3) := by decide +kernel
theorem d_S_isValid_61 : decode b_S_isValid 61 = .ok (.aload_n 1, 1) := by decide +kernel
theorem d_S_isValid_62 : decode b_S_isValid 62 = .ok (.getfield 208, 3) := by decide +kernel
theorem d_S_isValid_65 : decode b_S_isValid 65 = .ok (.aload_n 1, 1) := by decide +kernel
theorem d_S_isValid_66 : decode b_S_isValid 66 = .ok (.getfield 211, 3) := by decide +kernel
theorem d_S_isValid_69 : decode b_S_isValid 69 = .ok (.invokevirtual 61, 3) := by decide +kernel
theorem d_S_isValid_72 : decode b_S_isValid 72 = .ok (.if_icmp .ne 7, 3) := by decide +kernel
theorem d_S_isValid_75 : decode b_S_isValid 75 = .ok (.iconst 1, 1) := by decide +kernel
theorem d_S_isValid_76 : decode b_S_isValid 76 = .ok (.goto 4, 3) := by decide +kernel
theorem d_S_isValid_79 : decode b_S_isValid 79 = .ok (.iconst 0, 1) := by decide +kernel
theorem d_S_isValid_80 : decode b_S_isValid 80 = .ok (.ireturn, 1) := by decide +kernel
theorem d_S_isGood_0 : decode b_S_isGood 0 = .ok (.aload_n 0, 1) := by decide +kernel
theorem d_S_isGood_1 : decode b_S_isGood 1 = .ok (.iload_n 1, 1) := by decide +kernel
theorem d_S_isGood_2 : decode b_S_isGood 2 = .ok (.iconst 1, 1) := by decide +kernel
theorem d_S_isGood_3 : decode b_S_isGood 3 = .ok (.invokevirtual 243, 3) := by decide +kernel
theorem d_S_isGood_6 : decode b_S_isGood 6 = .ok (.ifCond .eq 16, 3) := by decide +kernel
theorem d_S_isGood_9 : decode b_S_isGood 9 = .ok (.aload_n 0, 1) := by decide +kernel
theorem d_S_isGood_10 : decode b_S_isGood 10 = .ok (.iload_n 1, 1) := by decide +kernel
theorem d_S_isGood_11 : decode b_S_isGood 11 = .ok (.iconst 2, 1) := by decide +kernel
theorem d_S_isGood_12 : decode b_S_isGood 12 = .ok (.invokevirtual 243, 3) := by decide +kernel
theorem d_S_isGood_15 : decode b_S_isGood 15 = .ok (.ifCond .eq 7, 3) := by decide +kernel
theorem d_S_isGood_18 : decode b_S_isGood 18 = .ok (.iconst 1, 1) := by decide +kernel
theorem d_S_isGood_19 : decode b_S_isGood 19 = .ok (.goto 4, 3) := by decide +kernel
theorem d_S_isGood_22 : decode b_S_isGood 22 = .ok (.iconst 0, 1) := by decide +kernel
theorem d_S_isGood_23 : decode b_S_isGood 23 = .ok (.ireturn, 1) := by decide +kernel
theorem d_S_isAuthorised_0 : decode b_S_isAuthorised 0 = .ok (.aload_n 0, 1) := by decide +kernel
theorem d_S_isAuthorised_1 : decode b_S_isAuthorised 1 = .ok (.iload_n 1, 1) := by decide +kernel
theorem d_S_isAuthorised_2 : decode b_S_isAuthorised 2 = .ok (.iconst 3, 1) := by decide +kernel
theorem d_S_isAuthorised_3 : decode b_S_isAuthorised 3 = .ok (.invokevirtual 243, 3) := by decide +kernel
theorem d_S_isAuthorised_6 : decode b_S_isAuthorised 6 = .ok (.ireturn, 1) := by decide +kernel
theorem d_S_isValidForIdHolder_0 : decode b_S_isValidForIdHolder 0 = .ok (.aload_n 0, 1) := by decide +kernel
theorem d_S_isValidForIdHolder_1 : decode b_S_isValidForIdHolder 1 = .ok (.iload_n 1, 1) := by decide +kernel
theorem d_S_isValidForIdHolder_2 : decode b_S_isValidForIdHolder 2 = .ok (.iconst 0, 1) := by decide +kernel
theorem d_S_isValidForIdHolder_3 : decode b_S_isValidForIdHolder 3 = .ok (.invokevirtual 76, 3) := by decide +kernel
theorem d_S_isValidForIdHolder_6 : decode b_S_isValidForIdHolder 6 = .ok (.astore_n 3, 1) := by decide +kernel
theorem d_S_isValidForIdHolder_7 : decode b_S_isValidForIdHolder 7 = .ok (.aload_n 0, 1) := by decide +kernel
theorem d_S_isValidForIdHolder_8 : decode b_S_isValidForIdHolder 8 = .ok (.iload_n 1, 1) := by decide +kernel
theorem d_S_isValidForIdHolder_9 : decode b_S_isValidForIdHolder 9 = .ok (.iload_n 2, 1) := by decide +kernel
theorem d_S_isValidForIdHolder_10 : decode b_S_isValidForIdHolder 10 = .ok (.invokevirtual 76, 3) := by decide +kernel
theorem d_S_isValidForIdHolder_13 : decode b_S_isValidForIdHolder 13 = .ok (.astore 4, 2) := by decide +kernel
theorem d_S_isValidForIdHolder_15 : decode b_S_isValidForIdHolder 15 = .ok (.aload_n 3, 1) := by decide +kernel
theorem d_S_isValidForIdHolder_16 : decode b_S_isValidForIdHolder 16 = .ok (.ifnull 41, 3) := by decide +kernel
theorem d_S_isValidForIdHolder_19 : decode b_S_isValidForIdHolder 19 = .ok (.aload 4, 2) := by decide +kernel
theorem d_S_isValidForIdHolder_21 : decode b_S_isValidForIdHolder 21 = .ok (.ifnull 36, 3) := by decide +kernel
theorem d_S_isValidForIdHolder_24 : decode b_S_isValidForIdHolder 24 = .ok (.aload_n 3, 1) := by decide +kernel
theorem d_S_isValidForIdHolder_25 : decode b_S_isValidForIdHolder 25 = .ok (.getfield 205, 3) := by decide +kernel
theorem d_S_isValidForIdHolder_28 : decode b_S_isValidForIdHolder 28 = .ok (.aload 4, 2) := by decide +kernel
theorem d_S_isValidForIdHolder_30 : decode b_S_isValidForIdHolder 30 = .ok (.getfield 205, 3) := by decide +kernel
theorem d_S_isValidForIdHolder_33 : decode b_S_isValidForIdHolder 33 = .ok (.if_icmp .ne 24, 3) := by decide +kernel
theorem d_S_isValidForIdHolder_36 : decode b_S_isValidForIdHolder 36 = .ok (.aload_n 0, 1) := by decide +kernel
theorem d_S_isValidForIdHolder_37 : decode b_S_isValidForIdHolder 37 = .ok (.aload_n 3, 1) := by decide +kernel
theorem d_S_isValidForIdHolder_38 : decode b_S_isValidForIdHolder 38 = .ok (.invokevirtual 217, 3) := by decide +kernel
theorem d_S_isValidForIdHolder_41 : decode b_S_isValidForIdHolder 41 = .ok (.ifCond .eq 16, 3) := by decide +kernel
theorem d_S_isValidForIdHolder_44 : decode b_S_isValidForIdHolder 44 = .ok (.aload_n 0, 1) := by decide +kernel
theorem d_S_isValidForIdHolder_45 : decode b_S_isValidForIdHolder 45 = .ok (.aload 4, 2) := by decide +kernel
theorem d_S_isValidForIdHolder_47 : decode b_S_isValidForIdHolder 47 = .ok (.invokevirtual 217, 3) := by decide +kernel
theorem d_S_isValidForIdHolder_50 : decode b_S_isValidForIdHolder 50 = .ok (.ifCond .eq 7, 3) := by decide +kernel
theorem d_S_isValidForIdHolder_53 : decode b_S_isValidForIdHolder 53 = .ok (.iconst 1, 1) := by decide +kernel
theorem d_S_isValidForIdHolder_54 : decode b_S_isValidForIdHolder 54 = .ok (.goto 4, 3) := by decide +kernel
theorem d_S_isValidForIdHolder_57 : decode b_S_isValidForIdHolder 57 = .ok (.iconst 0, 1) := by decide +kernel
theorem d_S_isValidForIdHolder_58 : decode b_S_isValidForIdHolder 58 = .ok (.ireturn, 1) := by decide +kernel
theorem d_S_authorisedRole_0 : decode b_S_authorisedRole 0 = .ok (.aload_n 0, 1) := by decide +kernel
theorem d_S_authorisedRole_1 : decode b_S_authorisedRole 1 = .ok (.iload_n 1, 1) := by decide +kernel
theorem d_S_authorisedRole_2 : decode b_S_authorisedRole 2 = .ok (.iconst 3, 1) := by decide +kernel
theorem d_S_authorisedRole_3 : decode b_S_authorisedRole 3 = .ok (.invokevirtual 76, 3) := by decide +kernel
theorem d_S_authorisedRole_6 : decode b_S_authorisedRole 6 = .ok (.astore_n 2, 1) := by decide +kernel
theorem d_S_authorisedRole_7 : decode b_S_authorisedRole 7 = .ok (.aload_n 2, 1) := by decide +kernel
theorem d_S_authorisedRole_8 : decode b_S_authorisedRole 8 = .ok (.ifnonnull 7, 3) := by decide +kernel
theorem d_S_authorisedRole_11 : decode b_S_authorisedRole 11 = .ok (.iconst 0, 1) := by decide +kernel
theorem d_S_authorisedRole_12 : decode b_S_authorisedRole 12 = .ok (.goto 7, 3) := by decide +kernel
theorem d_S_authorisedRole_15 : decode b_S_authorisedRole 15 = .ok (.aload_n 2, 1) := by decide +kernel
theorem d_S_authorisedRole_16 : decode b_S_authorisedRole 16 = .ok (.invokevirtual 246, 3) := by decide +kernel
theorem d_S_authorisedRole_19 : decode b_S_authorisedRole 19 = .ok (.ireturn, 1) := by decide +kernel
theorem d_S_matches_0 : decode b_S_matches 0 = .ok (.iload_n 1, 1) := by decide +kernel
theorem d_S_matches_1 : decode b_S_matches 1 = .ok (.iload_n 2, 1) := by decide +kernel
theorem d_S_matches_2 : decode b_S_matches 2 = .ok (.ixor, 1) := by decide +kernel
theorem d_S_matches_3 : decode b_S_matches 3 = .ok (.invokestatic 249, 3) := by decide +kernel
theorem d_S_matches_6 : decode b_S_matches 6 = .ok (.aload_n 0, 1) := by decide +kernel
theorem d_S_matches_7 : decode b_S_matches 7 = .ok (.getfield 18, 3) := by decide +kernel
theorem d_S_matches_10 : decode b_S_matches 10 = .ok (.iconst 4, 1) := by decide +kernel
theorem d_S_matches_11 : decode b_S_matches 11 = .ok (.iaload, 1) := by decide +kernel
theorem d_S_matches_12 : decode b_S_matches 12 = .ok (.if_icmp .gt 7, 3) := by decide +kernel
theorem d_S_matches_15 : decode b_S_matches 15 = .ok (.iconst 1, 1) := by decide +kernel
theorem d_S_matches_16 : decode b_S_matches 16 = .ok (.goto 4, 3) := by decide +kernel
theorem d_S_matches_19 : decode b_S_matches 19 = .ok (.iconst 0, 1) := by decide +kernel
theorem d_S_matches_20 : decode b_S_matches 20 = .ok (.ireturn, 1) := by decide +kernel
theorem d_S_authorisationBy_0 : decode b_S_authorisationBy 0 = .ok (.iconst 3, 1) := by decide +kernel
theorem d_S_authorisationBy_1 : decode b_S_authorisationBy 1 = .ok (.istore_n 2, 1) := by decide +kernel
theorem d_S_authorisationBy_2 : decode b_S_authorisationBy 2 = .ok (.iconst 4, 1) := by decide +kernel
theorem d_S_authorisationBy_3 : decode b_S_authorisationBy 3 = .ok (.aload_n 1, 1) := by decide +kernel
theorem d_S_authorisationBy_4 : decode b_S_authorisationBy 4 = .ok (.invokevirtual 254, 3) := by decide +kernel
theorem d_S_authorisationBy_7 : decode b_S_authorisationBy 7 = .ok (.aload_n 0, 1) := by decide +kernel
theorem d_S_authorisationBy_8 : decode b_S_authorisationBy 8 = .ok (.getfield 18, 3) := by decide +kernel
theorem d_S_authorisationBy_11 : decode b_S_authorisationBy 11 = .ok (.iconst 5, 1) := by decide +kernel
theorem d_S_authorisationBy_12 : decode b_S_authorisationBy 12 = .ok (.iaload, 1) := by decide +kernel
theorem d_S_authorisationBy_13 : decode b_S_authorisationBy 13 = .ok (.invokestatic 257, 3) := by decide +kernel
theorem d_S_authorisationBy_16 : decode b_S_authorisationBy 16 = .ok (.imul, 1) := by decide +kernel
theorem d_S_authorisationBy_17 : decode b_S_authorisationBy 17 = .ok (.aload_n 1, 1) := by decide +kernel
theorem d_S_authorisationBy_18 : decode b_S_authorisationBy 18 = .ok (.invokevirtual 246, 3) := by decide +kernel
theorem d_S_authorisationBy_21 : decode b_S_authorisationBy 21 = .ok (.iadd, 1) := by decide +kernel
theorem d_S_authorisationBy_22 : decode b_S_authorisationBy 22 = .ok (.istore_n 3, 1) := by decide +kernel
theorem d_S_authorisationBy_23 : decode b_S_authorisationBy 23 = .ok (.aload_n 0, 1) := by decide +kernel
theorem d_S_authorisationBy_24 : decode b_S_authorisationBy 24 = .ok (.getfield 101, 3) := by decide +kernel
theorem d_S_authorisationBy_27 : decode b_S_authorisationBy 27 = .ok (.aload_n 0, 1) := by decide +kernel
theorem d_S_authorisationBy_28 : decode b_S_authorisationBy 28 = .ok (.getfield 18, 3) := by decide +kernel
theorem d_S_authorisationBy_31 : decode b_S_authorisationBy 31 = .ok (.iconst 3, 1) := by decide +kernel
theorem d_S_authorisationBy_32 : decode b_S_authorisationBy 32 = .ok (.iaload, 1) := by decide +kernel
theorem d_S_authorisationBy_33 : decode b_S_authorisationBy 33 = .ok (.iadd, 1) := by decide +kernel
theorem d_S_authorisationBy_34 : decode b_S_authorisationBy 34 = .ok (.ldc 183, 2) := by decide +kernel
theorem d_S_authorisationBy_36 : decode b_S_authorisationBy 36 = .ok (.invokestatic 257, 3) := by decide +kernel
theorem d_S_authorisationBy_39 : decode b_S_authorisationBy 39 = .ok (.istore 4, 2) := by decide +kernel
theorem d_S_authorisationBy_41 : decode b_S_authorisationBy 41 = .ok (.aload_n 0, 1) := by decide +kernel
theorem d_S_authorisationBy_42 : decode b_S_authorisationBy 42 = .ok (.iload_n 2, 1) := by decide +kernel
theorem d_S_authorisationBy_43 : decode b_S_authorisationBy 43 = .ok (.bipush 6, 2) := by decide +kernel
theorem d_S_authorisationBy_45 : decode b_S_authorisationBy 45 = .ok (.aload_n 1, 1) := by decide +kernel
theorem d_S_authorisationBy_46 : decode b_S_authorisationBy 46 = .ok (.getfield 205, 3) := by decide +kernel
theorem d_S_authorisationBy_49 : decode b_S_authorisationBy 49 = .ok (.iload_n 3, 1) := by decide +kernel
theorem d_S_authorisationBy_50 : decode b_S_authorisationBy 50 = .ok (.aload_n 0, 1) := by decide +kernel
theorem d_S_authorisationBy_51 : decode b_S_authorisationBy 51 = .ok (.getfield 101, 3) := by decide +kernel
theorem d_S_authorisationBy_54 : decode b_S_authorisationBy 54 = .ok (.iload 4, 2) := by decide +kernel
theorem d_S_authorisationBy_56 : decode b_S_authorisationBy 56 = .ok (.invokevirtual 61, 3) := by decide +kernel
theorem d_S_authorisationBy_59 : decode b_S_authorisationBy 59 = .ok (.istore 5, 2) := by decide +kernel
theorem d_S_authorisationBy_61 : decode b_S_authorisationBy 61 = .ok (.new 24, 3) := by decide +kernel
theorem d_S_authorisationBy_64 : decode b_S_authorisationBy 64 = .ok (.dup, 1) := by decide +kernel
theorem d_S_authorisationBy_65 : decode b_S_authorisationBy 65 = .ok (.iload_n 2, 1) := by decide +kernel
theorem d_S_authorisationBy_66 : decode b_S_authorisationBy 66 = .ok (.bipush 6, 2) := by decide +kernel
theorem d_S_authorisationBy_68 : decode b_S_authorisationBy 68 = .ok (.aload_n 1, 1) := by decide +kernel
theorem d_S_authorisationBy_69 : decode b_S_authorisationBy 69 = .ok (.getfield 205, 3) := by decide +kernel
theorem d_S_authorisationBy_72 : decode b_S_authorisationBy 72 = .ok (.iload_n 3, 1) := by decide +kernel
theorem d_S_authorisationBy_73 : decode b_S_authorisationBy 73 = .ok (.aload_n 0, 1) := by decide +kernel
theorem d_S_authorisationBy_74 : decode b_S_authorisationBy 74 = .ok (.getfield 101, 3) := by decide +kernel
theorem d_S_authorisationBy_77 : decode b_S_authorisationBy 77 = .ok (.iload 4, 2) := by decide +kernel
theorem d_S_authorisationBy_79 : decode b_S_authorisationBy 79 = .ok (.iload 5, 2) := by decide +kernel
theorem d_S_authorisationBy_81 : decode b_S_authorisationBy 81 = .ok (.invokespecial 80, 3) := by decide +kernel
theorem d_S_authorisationBy_84 : decode b_S_authorisationBy 84 = .ok (.areturn, 1) := by decide +kernel
theorem d_S_becomeUserState_0 : decode b_S_becomeUserState 0 = .ok (.aload_n 0, 1) := by decide +kernel
theorem d_S_becomeUserState_1 : decode b_S_becomeUserState 1 = .ok (.iload_n 1, 1) := by decide +kernel
theorem d_S_becomeUserState_2 : decode b_S_becomeUserState 2 = .ok (.putfield 37, 3) := by decide +kernel
theorem d_S_becomeUserState_5 : decode b_S_becomeUserState 5 = .ok (.aload_n 0, 1) := by decide +kernel
theorem d_S_becomeUserState_6 : decode b_S_becomeUserState 6 = .ok (.aload_n 0, 1) := by decide +kernel
theorem d_S_becomeUserState_7 : decode b_S_becomeUserState 7 = .ok (.getfield 101, 3) := by decide +kernel
theorem d_S_becomeUserState_10 : decode b_S_becomeUserState 10 = .ok (.putfield 263, 3) := by decide +kernel
theorem d_S_becomeUserState_13 : decode b_S_becomeUserState 13 = .ok (.return_, 1) := by decide +kernel
theorem d_S_allowEntry_0 : decode b_S_allowEntry 0 = .ok (.aload_n 0, 1) := by decide +kernel
theorem d_S_allowEntry_1 : decode b_S_allowEntry 1 = .ok (.iconst 2, 1) := by decide +kernel
theorem d_S_allowEntry_2 : decode b_S_allowEntry 2 = .ok (.invokevirtual 98, 3) := by decide +kernel
theorem d_S_allowEntry_5 : decode b_S_allowEntry 5 = .ok (.aload_n 0, 1) := by decide +kernel
theorem d_S_allowEntry_6 : decode b_S_allowEntry 6 = .ok (.aload_n 0, 1) := by decide +kernel
theorem d_S_allowEntry_7 : decode b_S_allowEntry 7 = .ok (.getfield 41, 3) := by decide +kernel
theorem d_S_allowEntry_10 : decode b_S_allowEntry 10 = .ok (.bipush 7, 2) := by decide +kernel
theorem d_S_allowEntry_12 : decode b_S_allowEntry 12 = .ok (.invokevirtual 114, 3) := by decide +kernel
theorem d_S_allowEntry_15 : decode b_S_allowEntry 15 = .ok (.return_, 1) := by decide +kernel
theorem d_S_turnAway_0 : decode b_S_turnAway 0 = .ok (.aload_n 0, 1) := by decide +kernel
theorem d_S_turnAway_1 : decode b_S_turnAway 1 = .ok (.iconst 3, 1) := by decide +kernel
theorem d_S_turnAway_2 : decode b_S_turnAway 2 = .ok (.invokevirtual 98, 3) := by decide +kernel
theorem d_S_turnAway_5 : decode b_S_turnAway 5 = .ok (.aload_n 0, 1) := by decide +kernel
theorem d_S_turnAway_6 : decode b_S_turnAway 6 = .ok (.aload_n 0, 1) := by decide +kernel
theorem d_S_turnAway_7 : decode b_S_turnAway 7 = .ok (.getfield 41, 3) := by decide +kernel
theorem d_S_turnAway_10 : decode b_S_turnAway 10 = .ok (.iload_n 1, 1) := by decide +kernel
theorem d_S_turnAway_11 : decode b_S_turnAway 11 = .ok (.invokevirtual 114, 3) := by decide +kernel
theorem d_S_turnAway_14 : decode b_S_turnAway 14 = .ok (.return_, 1) := by decide +kernel
theorem d_S_endWaitingInTime_0 : decode b_S_endWaitingInTime 0 = .ok (.aload_n 0, 1) := by decide +kernel
theorem d_S_endWaitingInTime_1 : decode b_S_endWaitingInTime 1 = .ok (.getfield 37, 3) := by decide +kernel
theorem d_S_endWaitingInTime_4 : decode b_S_endWaitingInTime 4 = .ok (.iconst 1, 1) := by decide +kernel
theorem d_S_endWaitingInTime_5 : decode b_S_endWaitingInTime 5 = .ok (.if_icmp .eq 11, 3) := by decide +kernel
theorem d_S_endWaitingInTime_8 : decode b_S_endWaitingInTime 8 = .ok (.aload_n 0, 1) := by decide +kernel
theorem d_S_endWaitingInTime_9 : decode b_S_endWaitingInTime 9 = .ok (.getfield 37, 3) := by decide +kernel
theorem d_S_endWaitingInTime_12 : decode b_S_endWaitingInTime 12 = .ok (.iconst 2, 1) := by decide +kernel
theorem d_S_endWaitingInTime_13 : decode b_S_endWaitingInTime 13 = .ok (.if_icmp .ne 7, 3) := by decide +kernel
theorem d_S_endWaitingInTime_16 : decode b_S_endWaitingInTime 16 = .ok (.iconst 1, 1) := by decide +kernel
theorem d_S_endWaitingInTime_17 : decode b_S_endWaitingInTime 17 = .ok (.goto 4, 3) := by decide +kernel
theorem d_S_endWaitingInTime_20 : decode b_S_endWaitingInTime 20 = .ok (.iconst 0, 1) := by decide +kernel
theorem d_S_endWaitingInTime_21 : decode b_S_endWaitingInTime 21 = .ok (.istore_n 1, 1) := by decide +kernel
theorem d_S_endWaitingInTime_22 : decode b_S_endWaitingInTime 22 = .ok (.iload_n 1, 1) := by decide +kernel
theorem d_S_endWaitingInTime_23 : decode b_S_endWaitingInTime 23 = .ok (.ifCond .eq 27, 3) := by decide +kernel
theorem d_S_endWaitingInTime_26 : decode b_S_endWaitingInTime 26 = .ok (.aload_n 0, 1) := by decide +kernel
theorem d_S_endWaitingInTime_27 : decode b_S_endWaitingInTime 27 = .ok (.getfield 101, 3) := by decide +kernel
theorem d_S_endWaitingInTime_30 : decode b_S_endWaitingInTime 30 = .ok (.aload_n 0, 1) := by decide +kernel
theorem d_S_endWaitingInTime_31 : decode b_S_endWaitingInTime 31 = .ok (.getfield 263, 3) := by decide +kernel
theorem d_S_endWaitingInTime_34 : decode b_S_endWaitingInTime 34 = .ok (.isub, 1) := by decide +kernel
theorem d_S_endWaitingInTime_35 : decode b_S_endWaitingInTime 35 = .ok (.aload_n 0, 1) := by decide +kernel
theorem d_S_endWaitingInTime_36 : decode b_S_endWaitingInTime 36 = .ok (.getfield 18, 3) := by decide +kernel
theorem d_S_endWaitingInTime_39 : decode b_S_endWaitingInTime 39 = .ok (.iconst 2, 1) := by decide +kernel
theorem d_S_endWaitingInTime_40 : decode b_S_endWaitingInTime 40 = .ok (.iaload, 1) := by decide +kernel
theorem d_S_endWaitingInTime_41 : decode b_S_endWaitingInTime 41 = .ok (.if_icmp .lt 9, 3) := by decide +kernel
theorem d_S_endWaitingInTime_44 : decode b_S_endWaitingInTime 44 = .ok (.aload_n 0, 1) := by decide +kernel
theorem d_S_endWaitingInTime_45 : decode b_S_endWaitingInTime 45 = .ok (.bipush 6, 2) := by decide +kernel
theorem d_S_endWaitingInTime_47 : decode b_S_endWaitingInTime 47 = .ok (.invokevirtual 127, 3) := by decide +kernel
theorem d_S_endWaitingInTime_50 : decode b_S_endWaitingInTime 50 = .ok (.return_, 1) := by decide +kernel
theorem d_S_endAdministrationInTime_0 : decode b_S_endAdministrationInTime 0 = .ok (.aload_n 0, 1) := by decide +kernel
theorem d_S_endAdministrationInTime_1 : decode b_S_endAdministrationInTime 1 = .ok (.getfield 47, 3) := by decide +kernel
theorem d_S_endAdministrationInTime_4 : decode b_S_endAdministrationInTime 4 = .ok (.ifCond .eq 23, 3) := by decide +kernel
theorem d_S_endAdministrationInTime_7 : decode b_S_endAdministrationInTime 7 = .ok (.aload_n 0, 1) := by decide +kernel
theorem d_S_endAdministrationInTime_8 : decode b_S_endAdministrationInTime 8 = .ok (.aload_n 0, 1) := by decide +kernel
theorem d_S_endAdministrationInTime_9 : decode b_S_endAdministrationInTime 9 = .ok (.aload_n 0, 1) := by decide +kernel
theorem d_S_endAdministrationInTime_10 : decode b_S_endAdministrationInTime 10 = .ok (.getfield 44, 3) := by decide +kernel
theorem d_S_endAdministrationInTime_13 : decode b_S_endAdministrationInTime 13 = .ok (.iconst 3, 1) := by decide +kernel
theorem d_S_endAdministrationInTime_14 : decode b_S_endAdministrationInTime 14 = .ok (.invokevirtual 76, 3) := by decide +kernel
theorem d_S_endAdministrationInTime_17 : decode b_S_endAdministrationInTime 17 = .ok (.invokevirtual 217, 3) := by decide +kernel
theorem d_S_endAdministrationInTime_20 : decode b_S_endAdministrationInTime 20 = .ok (.ifCond .ne 7, 3) := by decide +kernel
theorem d_S_endAdministrationInTime_23 : decode b_S_endAdministrationInTime 23 = .ok (.aload_n 0, 1) := by decide +kernel
theorem d_S_endAdministrationInTime_24 : decode b_S_endAdministrationInTime 24 = .ok (.invokevirtual 152, 3) := by decide +kernel
theorem d_S_endAdministrationInTime_27 : decode b_S_endAdministrationInTime 27 = .ok (.return_, 1) := by decide +kernel
theorem d_S_dismissAdministrator_0 : decode b_S_dismissAdministrator 0 = .ok (.aload_n 0, 1) := by decide +kernel
theorem d_S_dismissAdministrator_1 : decode b_S_dismissAdministrator 1 = .ok (.iconst 0, 1) := by decide +kernel
theorem d_S_dismissAdministrator_2 : decode b_S_dismissAdministrator 2 = .ok (.putfield 47, 3) := by decide +kernel
theorem d_S_dismissAdministrator_5 : decode b_S_dismissAdministrator 5 = .ok (.aload_n 0, 1) := by decide +kernel
theorem d_S_dismissAdministrator_6 : decode b_S_dismissAdministrator 6 = .ok (.aload_n 0, 1) := by decide +kernel
theorem d_S_dismissAdministrator_7 : decode b_S_dismissAdministrator 7 = .ok (.getfield 44, 3) := by decide +kernel
theorem d_S_dismissAdministrator_10 : decode b_S_dismissAdministrator 10 = .ok (.bipush 11, 2) := by decide +kernel
theorem d_S_dismissAdministrator_12 : decode b_S_dismissAdministrator 12 = .ok (.invokevirtual 114, 3) := by decide +kernel
theorem d_S_dismissAdministrator_15 : decode b_S_dismissAdministrator 15 = .ok (.return_, 1) := by decide +kernel
theorem d_S_unlock_0 : decode b_S_unlock 0 = .ok (.aload_n 0, 1) := by decide +kernel
theorem d_S_unlock_1 : decode b_S_unlock 1 = .ok (.aload_n 0, 1) := by decide +kernel
theorem d_S_unlock_2 : decode b_S_unlock 2 = .ok (.getfield 101, 3) := by decide +kernel
theorem d_S_unlock_5 : decode b_S_unlock 5 = .ok (.aload_n 0, 1) := by decide +kernel
theorem d_S_unlock_6 : decode b_S_unlock 6 = .ok (.getfield 18, 3) := by decide +kernel
theorem d_S_unlock_9 : decode b_S_unlock 9 = .ok (.iconst 0, 1) := by decide +kernel
theorem d_S_unlock_10 : decode b_S_unlock 10 = .ok (.iaload, 1) := by decide +kernel
theorem d_S_unlock_11 : decode b_S_unlock 11 = .ok (.iadd, 1) := by decide +kernel
theorem d_S_unlock_12 : decode b_S_unlock 12 = .ok (.putfield 161, 3) := by decide +kernel
theorem d_S_unlock_15 : decode b_S_unlock 15 = .ok (.aload_n 0, 1) := by decide +kernel
theorem d_S_unlock_16 : decode b_S_unlock 16 = .ok (.aload_n 0, 1) := by decide +kernel
theorem d_S_unlock_17 : decode b_S_unlock 17 = .ok (.getfield 161, 3) := by decide +kernel
theorem d_S_unlock_20 : decode b_S_unlock 20 = .ok (.aload_n 0, 1) := by decide +kernel
theorem d_S_unlock_21 : decode b_S_unlock 21 = .ok (.getfield 18, 3) := by decide +kernel
theorem d_S_unlock_24 : decode b_S_unlock 24 = .ok (.iconst 1, 1) := by decide +kernel
theorem d_S_unlock_25 : decode b_S_unlock 25 = .ok (.iaload, 1) := by decide +kernel
theorem d_S_unlock_26 : decode b_S_unlock 26 = .ok (.iadd, 1) := by decide +kernel
theorem d_S_unlock_27 : decode b_S_unlock 27 = .ok (.putfield 180, 3) := by decide +kernel
theorem d_S_unlock_30 : decode b_S_unlock 30 = .ok (.return_, 1) := by decide +kernel
theorem d_S_isUnlocked_0 : decode b_S_isUnlocked 0 = .ok (.aload_n 0, 1) := by decide +kernel
theorem d_S_isUnlocked_1 : decode b_S_isUnlocked 1 = .ok (.getfield 101, 3) := by decide +kernel
theorem d_S_isUnlocked_4 : decode b_S_isUnlocked 4 = .ok (.aload_n 0, 1) := by decide +kernel
theorem d_S_isUnlocked_5 : decode b_S_isUnlocked 5 = .ok (.getfield 161, 3) := by decide +kernel
theorem d_S_isUnlocked_8 : decode b_S_isUnlocked 8 = .ok (.if_icmp .ge 7, 3) := by decide +kernel
theorem d_S_isUnlocked_11 : decode b_S_isUnlocked 11 = .ok (.iconst 1, 1) := by decide +kernel
theorem d_S_isUnlocked_12 : decode b_S_isUnlocked 12 = .ok (.goto 4, 3) := by decide +kernel
theorem d_S_isUnlocked_15 : decode b_S_isUnlocked 15 = .ok (.iconst 0, 1) := by decide +kernel
theorem d_S_isUnlocked_16 : decode b_S_isUnlocked 16 = .ok (.ireturn, 1) := by decide +kernel
theorem d_S_isAlarmSounding_0 : decode b_S_isAlarmSounding 0 = .ok (.aload_n 0, 1) := by decide +kernel
theorem d_S_isAlarmSounding_1 : decode b_S_isAlarmSounding 1 = .ok (.getfield 173, 3) := by decide +kernel
theorem d_S_isAlarmSounding_4 : decode b_S_isAlarmSounding 4 = .ok (.ifCond .eq 25, 3) := by decide +kernel
theorem d_S_isAlarmSounding_7 : decode b_S_isAlarmSounding 7 = .ok (.aload_n 0, 1) := by decide +kernel
theorem d_S_isAlarmSounding_8 : decode b_S_isAlarmSounding 8 = .ok (.invokevirtual 176, 3) := by decide +kernel
theorem d_S_isAlarmSounding_11 : decode b_S_isAlarmSounding 11 = .ok (.ifCond .ne 18, 3) := by decide +kernel
theorem d_S_isAlarmSounding_14 : decode b_S_isAlarmSounding 14 = .ok (.aload_n 0, 1) := by decide +kernel
theorem d_S_isAlarmSounding_15 : decode b_S_isAlarmSounding 15 = .ok (.getfield 101, 3) := by decide +kernel
theorem d_S_isAlarmSounding_18 : decode b_S_isAlarmSounding 18 = .ok (.aload_n 0, 1) := by decide +kernel
theorem d_S_isAlarmSounding_19 : decode b_S_isAlarmSounding 19 = .ok (.getfield 180, 3) := by decide +kernel
theorem d_S_isAlarmSounding_22 : decode b_S_isAlarmSounding 22 = .ok (.if_icmp .lt 7, 3) := by decide +kernel
theorem d_S_isAlarmSounding_25 : decode b_S_isAlarmSounding 25 = .ok (.iconst 1, 1) := by decide +kernel
theorem d_S_isAlarmSounding_26 : decode b_S_isAlarmSounding 26 = .ok (.goto 4, 3) := by decide +kernel
theorem d_S_isAlarmSounding_29 : decode b_S_isAlarmSounding 29 = .ok (.iconst 0, 1) := by decide +kernel
theorem d_S_isAlarmSounding_30 : decode b_S_isAlarmSounding 30 = .ok (.ireturn, 1) := by decide +kernel
theorem d_S_writeAbout_0 : decode b_S_writeAbout 0 = .ok (.aload_n 0, 1) := by decide +kernel
theorem d_S_writeAbout_1 : decode b_S_writeAbout 1 = .ok (.iload_n 1, 1) := by decide +kernel
theorem d_S_writeAbout_2 : decode b_S_writeAbout 2 = .ok (.iconst 0, 1) := by decide +kernel
theorem d_S_writeAbout_3 : decode b_S_writeAbout 3 = .ok (.invokevirtual 76, 3) := by decide +kernel
theorem d_S_writeAbout_6 : decode b_S_writeAbout 6 = .ok (.astore_n 3, 1) := by decide +kernel
theorem d_S_writeAbout_7 : decode b_S_writeAbout 7 = .ok (.aload_n 0, 1) := by decide +kernel
theorem d_S_writeAbout_8 : decode b_S_writeAbout 8 = .ok (.getfield 33, 3) := by decide +kernel
theorem d_S_writeAbout_11 : decode b_S_writeAbout 11 = .ok (.iload_n 2, 1) := by decide +kernel
theorem d_S_writeAbout_12 : decode b_S_writeAbout 12 = .ok (.aload_n 0, 1) := by decide +kernel
theorem d_S_writeAbout_13 : decode b_S_writeAbout 13 = .ok (.getfield 101, 3) := by decide +kernel
theorem d_S_writeAbout_16 : decode b_S_writeAbout 16 = .ok (.aload_n 3, 1) := by decide +kernel
theorem d_S_writeAbout_17 : decode b_S_writeAbout 17 = .ok (.ifnonnull 7, 3) := by decide +kernel
theorem d_S_writeAbout_20 : decode b_S_writeAbout 20 = .ok (.iconst (-1), 1) := by decide +kernel
theorem d_S_writeAbout_21 : decode b_S_writeAbout 21 = .ok (.goto 7, 3) := by decide +kernel
theorem d_S_writeAbout_24 : decode b_S_writeAbout 24 = .ok (.aload_n 3, 1) := by decide +kernel
theorem d_S_writeAbout_25 : decode b_S_writeAbout 25 = .ok (.getfield 205, 3) := by decide +kernel
theorem d_S_writeAbout_28 : decode b_S_writeAbout 28 = .ok (.invokevirtual 104, 3) := by decide +kernel
theorem d_S_writeAbout_31 : decode b_S_writeAbout 31 = .ok (.return_, 1) := by decide +kernel
theorem d_C_init_0 : decode b_C_init 0 = .ok (.aload_n 0, 1) := by decide +kernel
theorem d_C_init_1 : decode b_C_init 1 = .ok (.invokespecial 3, 3) := by decide +kernel
theorem d_C_init_4 : decode b_C_init 4 = .ok (.aload_n 0, 1) := by decide +kernel
theorem d_C_init_5 : decode b_C_init 5 = .ok (.iload_n 1, 1) := by decide +kernel
theorem d_C_init_6 : decode b_C_init 6 = .ok (.putfield 9, 3) := by decide +kernel
theorem d_C_init_9 : decode b_C_init 9 = .ok (.aload_n 0, 1) := by decide +kernel
theorem d_C_init_10 : decode b_C_init 10 = .ok (.iload_n 2, 1) := by decide +kernel
theorem d_C_init_11 : decode b_C_init 11 = .ok (.putfield 15, 3) := by decide +kernel
theorem d_C_init_14 : decode b_C_init 14 = .ok (.aload_n 0, 1) := by decide +kernel
theorem d_C_init_15 : decode b_C_init 15 = .ok (.iload_n 3, 1) := by decide +kernel
theorem d_C_init_16 : decode b_C_init 16 = .ok (.putfield 18, 3) := by decide +kernel
theorem d_C_init_19 : decode b_C_init 19 = .ok (.aload_n 0, 1) := by decide +kernel
theorem d_C_init_20 : decode b_C_init 20 = .ok (.iload 4, 2) := by decide +kernel
theorem d_C_init_22 : decode b_C_init 22 = .ok (.putfield 21, 3) := by decide +kernel
theorem d_C_init_25 : decode b_C_init 25 = .ok (.aload_n 0, 1) := by decide +kernel
theorem d_C_init_26 : decode b_C_init 26 = .ok (.iload 5, 2) := by decide +kernel
theorem d_C_init_28 : decode b_C_init 28 = .ok (.putfield 24, 3) := by decide +kernel
theorem d_C_init_31 : decode b_C_init 31 = .ok (.aload_n 0, 1) := by decide +kernel
theorem d_C_init_32 : decode b_C_init 32 = .ok (.iload 6, 2) := by decide +kernel
theorem d_C_init_34 : decode b_C_init 34 = .ok (.putfield 27, 3) := by decide +kernel
theorem d_C_init_37 : decode b_C_init 37 = .ok (.aload_n 0, 1) := by decide +kernel
theorem d_C_init_38 : decode b_C_init 38 = .ok (.iload 7, 2) := by decide +kernel
theorem d_C_init_40 : decode b_C_init 40 = .ok (.putfield 30, 3) := by decide +kernel
theorem d_C_init_43 : decode b_C_init 43 = .ok (.return_, 1) := by decide +kernel
theorem d_C_isFitForItsKind_0 : decode b_C_isFitForItsKind 0 = .ok (.aload_n 0, 1) := by decide +kernel
theorem d_C_isFitForItsKind_1 : decode b_C_isFitForItsKind 1 = .ok (.getfield 9, 3) := by decide +kernel
theorem d_C_isFitForItsKind_4 : decode b_C_isFitForItsKind 4 = .ok (.iconst 3, 1) := by decide +kernel
theorem d_C_isFitForItsKind_5 : decode b_C_isFitForItsKind 5 = .ok (.if_icmp .ne 27, 3) := by decide +kernel
theorem d_C_isFitForItsKind_8 : decode b_C_isFitForItsKind 8 = .ok (.aload_n 0, 1) := by decide +kernel
theorem d_C_isFitForItsKind_9 : decode b_C_isFitForItsKind 9 = .ok (.getfield 15, 3) := by decide +kernel
theorem d_C_isFitForItsKind_12 : decode b_C_isFitForItsKind 12 = .ok (.bipush 6, 2) := by decide +kernel
theorem d_C_isFitForItsKind_14 : decode b_C_isFitForItsKind 14 = .ok (.if_icmp .ne 16, 3) := by decide +kernel
theorem d_C_isFitForItsKind_17 : decode b_C_isFitForItsKind 17 = .ok (.aload_n 0, 1) := by decide +kernel
theorem d_C_isFitForItsKind_18 : decode b_C_isFitForItsKind 18 = .ok (.getfield 21, 3) := by decide +kernel
theorem d_C_isFitForItsKind_21 : decode b_C_isFitForItsKind 21 = .ok (.bipush 15, 2) := by decide +kernel
theorem d_C_isFitForItsKind_23 : decode b_C_isFitForItsKind 23 = .ok (.if_icmp .gt 7, 3) := by decide +kernel
theorem d_C_isFitForItsKind_26 : decode b_C_isFitForItsKind 26 = .ok (.iconst 1, 1) := by decide +kernel
theorem d_C_isFitForItsKind_27 : decode b_C_isFitForItsKind 27 = .ok (.goto 4, 3) := by decide +kernel
theorem d_C_isFitForItsKind_30 : decode b_C_isFitForItsKind 30 = .ok (.iconst 0, 1) := by decide +kernel
theorem d_C_isFitForItsKind_31 : decode b_C_isFitForItsKind 31 = .ok (.ireturn, 1) := by decide +kernel
theorem d_C_isFitForItsKind_32 : decode b_C_isFitForItsKind 32 = .ok (.aload_n 0, 1) := by decide +kernel
theorem d_C_isFitForItsKind_33 : decode b_C_isFitForItsKind 33 = .ok (.getfield 9, 3) := by decide +kernel
theorem d_C_isFitForItsKind_36 : decode b_C_isFitForItsKind 36 = .ok (.iconst 1, 1) := by decide +kernel
theorem d_C_isFitForItsKind_37 : decode b_C_isFitForItsKind 37 = .ok (.if_icmp .ne 12, 3) := by decide +kernel
theorem d_C_isFitForItsKind_40 : decode b_C_isFitForItsKind 40 = .ok (.aload_n 0, 1) := by decide +kernel
theorem d_C_isFitForItsKind_41 : decode b_C_isFitForItsKind 41 = .ok (.getfield 21, 3) := by decide +kernel
theorem d_C_isFitForItsKind_44 : decode b_C_isFitForItsKind 44 = .ok (.bipush 15, 2) := by decide +kernel
theorem d_C_isFitForItsKind_46 : decode b_C_isFitForItsKind 46 = .ok (.if_icmp .gt 7, 3) := by decide +kernel
theorem d_C_isFitForItsKind_49 : decode b_C_isFitForItsKind 49 = .ok (.iconst 1, 1) := by decide +kernel
theorem d_C_isFitForItsKind_50 : decode b_C_isFitForItsKind 50 = .ok (.goto 4, 3) := by decide +kernel
theorem d_C_isFitForItsKind_53 : decode b_C_isFitForItsKind 53 = .ok (.iconst 0, 1) := by decide +kernel
theorem d_C_isFitForItsKind_54 : decode b_C_isFitForItsKind 54 = .ok (.ireturn, 1) := by decide +kernel
theorem d_C_clearance_0 : decode b_C_clearance 0 = .ok (.aload_n 0, 1) := by decide +kernel
theorem d_C_clearance_1 : decode b_C_clearance 1 = .ok (.getfield 21, 3) := by decide +kernel
theorem d_C_clearance_4 : decode b_C_clearance 4 = .ok (.iconst 4, 1) := by decide +kernel
theorem d_C_clearance_5 : decode b_C_clearance 5 = .ok (.idiv, 1) := by decide +kernel
theorem d_C_clearance_6 : decode b_C_clearance 6 = .ok (.ireturn, 1) := by decide +kernel
theorem d_C_role_0 : decode b_C_role 0 = .ok (.aload_n 0, 1) := by decide +kernel
theorem d_C_role_1 : decode b_C_role 1 = .ok (.getfield 21, 3) := by decide +kernel
theorem d_C_role_4 : decode b_C_role 4 = .ok (.iconst 4, 1) := by decide +kernel
theorem d_C_role_5 : decode b_C_role 5 = .ok (.irem, 1) := by decide +kernel
theorem d_C_role_6 : decode b_C_role 6 = .ok (.ireturn, 1) := by decide +kernel
theorem d_O_init_0 : decode b_O_init 0 = .ok (.aload_n 0, 1) := by decide +kernel
theorem d_O_init_1 : decode b_O_init 1 = .ok (.invokespecial 1, 3) := by decide +kernel
theorem d_O_init_4 : decode b_O_init 4 = .ok (.aload_n 0, 1) := by decide +kernel
theorem d_O_init_5 : decode b_O_init 5 = .ok (.bipush 16, 2) := by decide +kernel
theorem d_O_init_7 : decode b_O_init 7 = .ok (.newarray .int, 2) := by decide +kernel
theorem d_O_init_9 : decode b_O_init 9 = .ok (.putfield 9, 3) := by decide +kernel
theorem d_O_init_12 : decode b_O_init 12 = .ok (.aload_n 0, 1) := by decide +kernel
theorem d_O_init_13 : decode b_O_init 13 = .ok (.bipush 16, 2) := by decide +kernel
theorem d_O_init_15 : decode b_O_init 15 = .ok (.newarray .int, 2) := by decide +kernel
theorem d_O_init_17 : decode b_O_init 17 = .ok (.putfield 13, 3) := by decide +kernel
theorem d_O_init_20 : decode b_O_init 20 = .ok (.aload_n 0, 1) := by decide +kernel
theorem d_O_init_21 : decode b_O_init 21 = .ok (.bipush 16, 2) := by decide +kernel
theorem d_O_init_23 : decode b_O_init 23 = .ok (.newarray .int, 2) := by decide +kernel
theorem d_O_init_25 : decode b_O_init 25 = .ok (.putfield 16, 3) := by decide +kernel
theorem d_O_init_28 : decode b_O_init 28 = .ok (.return_, 1) := by decide +kernel
theorem d_O_write_0 : decode b_O_write 0 = .ok (.aload_n 0, 1) := by decide +kernel
theorem d_O_write_1 : decode b_O_write 1 = .ok (.getfield 19, 3) := by decide +kernel
theorem d_O_write_4 : decode b_O_write 4 = .ok (.bipush 16, 2) := by decide +kernel
theorem d_O_write_6 : decode b_O_write 6 = .ok (.if_icmp .lt 7, 3) := by decide +kernel
theorem d_O_write_9 : decode b_O_write 9 = .ok (.aload_n 0, 1) := by decide +kernel
theorem d_O_write_10 : decode b_O_write 10 = .ok (.invokevirtual 23, 3) := by decide +kernel
theorem d_O_write_13 : decode b_O_write 13 = .ok (.aload_n 0, 1) := by decide +kernel
theorem d_O_write_14 : decode b_O_write 14 = .ok (.getfield 9, 3) := by decide +kernel
theorem d_O_write_17 : decode b_O_write 17 = .ok (.aload_n 0, 1) := by decide +kernel
theorem d_O_write_18 : decode b_O_write 18 = .ok (.getfield 19, 3) := by decide +kernel
theorem d_O_write_21 : decode b_O_write 21 = .ok (.iload_n 1, 1) := by decide +kernel
theorem d_O_write_22 : decode b_O_write 22 = .ok (.iastore, 1) := by decide +kernel
theorem d_O_write_23 : decode b_O_write 23 = .ok (.aload_n 0, 1) := by decide +kernel
theorem d_O_write_24 : decode b_O_write 24 = .ok (.getfield 13, 3) := by decide +kernel
theorem d_O_write_27 : decode b_O_write 27 = .ok (.aload_n 0, 1) := by decide +kernel
theorem d_O_write_28 : decode b_O_write 28 = .ok (.getfield 19, 3) := by decide +kernel
theorem d_O_write_31 : decode b_O_write 31 = .ok (.iload_n 2, 1) := by decide +kernel
theorem d_O_write_32 : decode b_O_write 32 = .ok (.iastore, 1) := by decide +kernel
theorem d_O_write_33 : decode b_O_write 33 = .ok (.aload_n 0, 1) := by decide +kernel
theorem d_O_write_34 : decode b_O_write 34 = .ok (.getfield 16, 3) := by decide +kernel
theorem d_O_write_37 : decode b_O_write 37 = .ok (.aload_n 0, 1) := by decide +kernel
theorem d_O_write_38 : decode b_O_write 38 = .ok (.getfield 19, 3) := by decide +kernel
theorem d_O_write_41 : decode b_O_write 41 = .ok (.iload_n 3, 1) := by decide +kernel
theorem d_O_write_42 : decode b_O_write 42 = .ok (.iastore, 1) := by decide +kernel
theorem d_O_write_43 : decode b_O_write 43 = .ok (.aload_n 0, 1) := by decide +kernel
theorem d_O_write_44 : decode b_O_write 44 = .ok (.dup, 1) := by decide +kernel
theorem d_O_write_45 : decode b_O_write 45 = .ok (.getfield 19, 3) := by decide +kernel
theorem d_O_write_48 : decode b_O_write 48 = .ok (.iconst 1, 1) := by decide +kernel
theorem d_O_write_49 : decode b_O_write 49 = .ok (.iadd, 1) := by decide +kernel
theorem d_O_write_50 : decode b_O_write 50 = .ok (.putfield 19, 3) := by decide +kernel
theorem d_O_write_53 : decode b_O_write 53 = .ok (.return_, 1) := by decide +kernel
theorem d_O_loseOldest_0 : decode b_O_loseOldest 0 = .ok (.aload_n 0, 1) := by decide +kernel
theorem d_O_loseOldest_1 : decode b_O_loseOldest 1 = .ok (.bipush 12, 2) := by decide +kernel
theorem d_O_loseOldest_3 : decode b_O_loseOldest 3 = .ok (.putfield 19, 3) := by decide +kernel
theorem d_O_loseOldest_6 : decode b_O_loseOldest 6 = .ok (.aload_n 0, 1) := by decide +kernel
theorem d_O_loseOldest_7 : decode b_O_loseOldest 7 = .ok (.getfield 9, 3) := by decide +kernel
theorem d_O_loseOldest_10 : decode b_O_loseOldest 10 = .ok (.iconst 4, 1) := by decide +kernel
theorem d_O_loseOldest_11 : decode b_O_loseOldest 11 = .ok (.aload_n 0, 1) := by decide +kernel
theorem d_O_loseOldest_12 : decode b_O_loseOldest 12 = .ok (.getfield 9, 3) := by decide +kernel
theorem d_O_loseOldest_15 : decode b_O_loseOldest 15 = .ok (.iconst 0, 1) := by decide +kernel
theorem d_O_loseOldest_16 : decode b_O_loseOldest 16 = .ok (.aload_n 0, 1) := by decide +kernel
theorem d_O_loseOldest_17 : decode b_O_loseOldest 17 = .ok (.getfield 19, 3) := by decide +kernel
theorem d_O_loseOldest_20 : decode b_O_loseOldest 20 = .ok (.invokestatic 26, 3) := by decide +kernel
theorem d_O_loseOldest_23 : decode b_O_loseOldest 23 = .ok (.aload_n 0, 1) := by decide +kernel
theorem d_O_loseOldest_24 : decode b_O_loseOldest 24 = .ok (.getfield 13, 3) := by decide +kernel
theorem d_O_loseOldest_27 : decode b_O_loseOldest 27 = .ok (.iconst 4, 1) := by decide +kernel
theorem d_O_loseOldest_28 : decode b_O_loseOldest 28 = .ok (.aload_n 0, 1) := by decide +kernel
theorem d_O_loseOldest_29 : decode b_O_loseOldest 29 = .ok (.getfield 13, 3) := by decide +kernel
theorem d_O_loseOldest_32 : decode b_O_loseOldest 32 = .ok (.iconst 0, 1) := by decide +kernel
theorem d_O_loseOldest_33 : decode b_O_loseOldest 33 = .ok (.aload_n 0, 1) := by decide +kernel
theorem d_O_loseOldest_34 : decode b_O_loseOldest 34 = .ok (.getfield 19, 3) := by decide +kernel
theorem d_O_loseOldest_37 : decode b_O_loseOldest 37 = .ok (.invokestatic 26, 3) := by decide +kernel
theorem d_O_loseOldest_40 : decode b_O_loseOldest 40 = .ok (.aload_n 0, 1) := by decide +kernel
theorem d_O_loseOldest_41 : decode b_O_loseOldest 41 = .ok (.getfield 16, 3) := by decide +kernel
theorem d_O_loseOldest_44 : decode b_O_loseOldest 44 = .ok (.iconst 4, 1) := by decide +kernel
theorem d_O_loseOldest_45 : decode b_O_loseOldest 45 = .ok (.aload_n 0, 1) := by decide +kernel
theorem d_O_loseOldest_46 : decode b_O_loseOldest 46 = .ok (.getfield 16, 3) := by decide +kernel
theorem d_O_loseOldest_49 : decode b_O_loseOldest 49 = .ok (.iconst 0, 1) := by decide +kernel
theorem d_O_loseOldest_50 : decode b_O_loseOldest 50 = .ok (.aload_n 0, 1) := by decide +kernel
theorem d_O_loseOldest_51 : decode b_O_loseOldest 51 = .ok (.getfield 19, 3) := by decide +kernel
theorem d_O_loseOldest_54 : decode b_O_loseOldest 54 = .ok (.invokestatic 26, 3) := by decide +kernel
theorem d_O_loseOldest_57 : decode b_O_loseOldest 57 = .ok (.aload_n 0, 1) := by decide +kernel
theorem d_O_loseOldest_58 : decode b_O_loseOldest 58 = .ok (.iconst 1, 1) := by decide +kernel
theorem d_O_loseOldest_59 : decode b_O_loseOldest 59 = .ok (.putfield 32, 3) := by decide +kernel
theorem d_O_loseOldest_62 : decode b_O_loseOldest 62 = .ok (.return_, 1) := by decide +kernel
theorem d_O_clear_0 : decode b_O_clear 0 = .ok (.aload_n 0, 1) := by decide +kernel
theorem d_O_clear_1 : decode b_O_clear 1 = .ok (.iconst 0, 1) := by decide +kernel
theorem d_O_clear_2 : decode b_O_clear 2 = .ok (.putfield 19, 3) := by decide +kernel
theorem d_O_clear_5 : decode b_O_clear 5 = .ok (.aload_n 0, 1) := by decide +kernel
theorem d_O_clear_6 : decode b_O_clear 6 = .ok (.iconst 0, 1) := by decide +kernel
theorem d_O_clear_7 : decode b_O_clear 7 = .ok (.putfield 32, 3) := by decide +kernel
theorem d_O_clear_10 : decode b_O_clear 10 = .ok (.return_, 1) := by decide +kernel
end DEC
end
section
/-! what stands outside the worlds and stays: words that are not kept by themselves, two statics of Throwable, the table of the highest numbers -/
section AMB
abbrev gG : Type := va_G × (Nat → ClassId) × (Nat → Nat)
def tyL (G : gG) : List (ClassId × FieldType) := [(G.2.1 0, .int), (G.2.1 1, .object "SecureEntry$Certificate"), (G.2.1 2, .long), (G.2.1 3, .boolean)]
def hiC (k : Nat) : Int32 := match k with
  | 4 => 16
  | 5 => 3
  | _ => 1000
def nwL : List Cond := [.castable "java/lang/IllegalArgumentException" "java/lang/IllegalArgumentException", .castable "java/lang/IllegalStateException" "java/lang/IllegalStateException", .castable "java/util/NoSuchElementException" "java/util/NoSuchElementException", .castable "java/lang/UnsupportedOperationException" "java/lang/UnsupportedOperationException", .declares ⟨"java/lang/RuntimeException", "<init>", "()V"⟩, .declares ⟨"java/lang/Exception", "<init>", "()V"⟩, .declares ⟨"java/lang/Throwable", "<init>", "()V"⟩]
def amb (G : gG) (A : Nat → Prop) (U : State) (H : Heap) : Prop := (∀ w ∈ nwL, va_Nw w U) ∧ vx_Zq Bundle.tN "UNASSIGNED_STACK" Bundle.steD A U H ∧ vx_Zq Bundle.tN "SUPPRESSED_SENTINEL" Bundle.listD A U H ∧ va_Z R_S "HIGHEST_CONFIGURATION" "[I" (.ref (G.2.2 0)) A U H ∧ va_T .int (G.2.2 0) 6 (fun j => .int (hiC j)) A U H
theorem nw_warm {s U : State} (hW : s.WarmedH U.vm) (h : ∀ w ∈ nwL, va_Nw w s) : ∀ w ∈ nwL, va_Nw w U := by
  intro w hw
  have h1 := h w hw
  simp only [nwL, List.mem_cons, List.not_mem_nil, or_false] at hw
  rcases hw with rfl | rfl | rfl | rfl | rfl | rfl | rfl
  · exact va_Nw.warmC hW h1
  · exact va_Nw.warmC hW h1
  · exact va_Nw.warmC hW h1
  · exact va_Nw.warmC hW h1
  · exact va_Nw.warmD hW h1
  · exact va_Nw.warmD hW h1
  · exact va_Nw.warmD hW h1
theorem nw_same {s U : State} (hW : s.vm = U.vm) (h : ∀ w ∈ nwL, va_Nw w s) : ∀ w ∈ nwL, va_Nw w U := by
  intro w hw
  have h1 := h w hw
  simp only [nwL, List.mem_cons, List.not_mem_nil, or_false] at hw
  rcases hw with rfl | rfl | rfl | rfl | rfl | rfl | rfl <;> exact va_Nw.same rfl hW h1
theorem amb.go {G : gG} {A B : Nat → Prop} {s U : State} {H : Heap} {locs : List Loc} (h : amb G A s s.heap) (hS : va_S A s.heap H locs) (hW : s.WarmedH U.vm) (hU : U.heap = H) (hB : ∀ q, B q → A q) : amb G B U U.heap := by
  obtain ⟨h1, h2, h3, h4, h5⟩ := h
  rw [hU]
  exact ⟨nw_warm hW h1, ((h2.kept hS.2.1).narrow hB).moved hW.alike, ((h3.kept hS.2.1).narrow hB).moved hW.alike, ((h4.kept hS.2.1).narrow hB).moved hW.alike, ((h5.kept hS.2.1).narrow hB).moved hW.alike⟩
theorem amb.blind {G : gG} {B : Nat → Prop} {U : State} {g : JFrame} {mk : MethodId} {a : Array Value} (h : amb G B U U.heap) : amb G B (U.calling g mk a) (U.calling g mk a).heap := by
  obtain ⟨h1, h2, h3, h4, h5⟩ := h
  exact ⟨nw_same (s := U) (U := U.calling g mk a) rfl h1, h2.moved (Vm.Alike.refl U.vm), h3.moved (Vm.Alike.refl U.vm), h4.moved (Vm.Alike.refl U.vm), h5.moved (Vm.Alike.refl U.vm)⟩
end AMB
/-! the ground: one world for all; every contract speaks of the whole world that its caller holds, so no call cuts or joins anything -/
section GROUND
def z_pre (G : gG) (ws : va_W) (sz : Nat) (U : State) : Prop :=
  U.heap.size = sz ∧ va_P G.1 kCl ws U.heap ∧ va_K G.1 kCl (tyL G) U ∧ va_D (fun _ => True) ws ∧ amb G (va_A ws sz) U U.heap
def z_bk (G : gG) (ws0 : va_W) (sz : Nat) (ws1 : va_W) (t : State) : Prop := va_P G.1 kCl ws1 t.heap ∧ va_K G.1 kCl (tyL G) t ∧ va_D (va_A ws0 sz) ws1
def z_wl (G : gG) (ws0 : va_W) (s : State) (ws : va_W) (H : Heap) (locs : List Loc) : Prop :=
  va_P G.1 kCl ws H ∧ va_D (va_A ws0 s.heap.size) ws ∧ va_S (va_A ws0 s.heap.size) s.heap H locs
/-- what a walk knows of its start, all the way -/
def z_st (G : gG) (ws0 : va_W) (s : State) : Prop := va_K G.1 kCl (tyL G) s ∧ amb G (va_A ws0 s.heap.size) s s.heap
theorem z_blind {G : gG} {ws : va_W} {sz : Nat} {av : List Value} : FrameBlind (va_Pc av (z_pre G ws sz)) := by
  intro a U g mk q
  obtain ⟨q0, q1, q2, q3, q4, q5⟩ := q
  exact ⟨q0, q1, q2, va_K.moved (u := U) (U := U.calling g mk a) (Vm.Alike.refl U.vm) q3, q4, amb.blind q5⟩
theorem z_in {G : gG} {ws0 ws : va_W} {s : State} {H : Heap} {locs : List Loc} (hw : z_wl G ws0 s ws H locs) : ∀ q, va_A ws H.size q → va_A ws0 s.heap.size q := by
  intro q h
  rcases h with ⟨k, e, h⟩ | h
  · exact hw.2.1.2 k _ h
  · exact Or.inr (Nat.le_trans hw.2.2.1 h)
theorem z_go {G : gG} {ws0 ws : va_W} {s : State} {H : Heap} {locs : List Loc} {av : List Value} (h0 : z_st G ws0 s) (hw : z_wl G ws0 s ws H locs) : ∀ U : State, U.heap = H → s.WarmedH U.vm → va_Pc av (z_pre G ws H.size) av.toArray U := by
  intro U hU hW
  refine ⟨rfl, by rw [hU], by rw [hU]; exact hw.1, va_K.moved hW.alike h0.1, hw.2.1.weaken (fun _ _ _ _ => trivial), ?_⟩
  exact amb.go h0.2 hw.2.2 hW hU (z_in hw)
theorem z_back {G : gG} {ws0 ws ws1 : va_W} {s t : State} {H H1 : Heap} {locs locs1 : List Loc} (hw : z_wl G ws0 s ws H locs) (hB : z_bk G ws H.size ws1 t) (ht : t.heap = H1) (hS : va_S (va_A ws0 s.heap.size) s.heap H1 locs1) : z_wl G ws0 s ws1 H1 locs1 := by
  obtain ⟨h1, -, h3⟩ := hB
  rw [ht] at h1
  exact ⟨h1, h3.weaken (fun k q _ h => z_in hw q.1 h), hS⟩
theorem z_0 {G : gG} {ws0 : va_W} {s : State} (hP : va_P G.1 kCl ws0 s.heap) (hD : va_D (fun _ => True) ws0) : z_wl G ws0 s ws0 s.heap [] := ⟨hP, hD.self, va_S.rf⟩
/-- the ends -/
abbrev z_Qi {S : Type} (G : gG) (ws0 : va_W) (sz : Nat) (wf : S → va_W) (post : Int32 → S → Prop) : Array Value → State → Outcome → State → Prop := va_Qi post (fun u t => z_bk G ws0 sz (wf u) t) (va_A ws0 sz)
abbrev z_Qv {S : Type} (G : gG) (ws0 : va_W) (sz : Nat) (wf : S → va_W) (post : S → Prop) : Array Value → State → Outcome → State → Prop := va_Qv post (fun u t => z_bk G ws0 sz (wf u) t) (va_A ws0 sz)
abbrev z_Qq {S : Type} (G : gG) (ws0 : va_W) (sz : Nat) (wf : S → va_W) (post : Option Nat → S → Prop) : Array Value → State → Outcome → State → Prop := va_Qq post (fun u t => z_bk G ws0 sz (wf u) t) (va_A ws0 sz)
abbrev z_X (G : gG) (ws0 : va_W) (sz : Nat) (P : String → Prop) : String → State → State → Prop := vx_X (fun _ : Unit => True) (fun E _ t => P E ∧ z_bk G ws0 sz ws0 t) (va_A ws0 sz)
section ROWS
variable {p : Program} {l : Launch} {e : Env} {R : Room} {s : State} {m : MethodId} {args : Array Value} {below : List Frame} {meth : Method} {c : Code} {H : Heap} {locs : List Loc} {cells slots : Nat} {Q : State → Prop}
variable {cc bytes : ByteArray} {pc : Nat} {ls : Array Slot} {rest st0 : List Value} {G : gG} {ws0 ws : va_W} {mc ms nL maxL n index : Nat} {own C : String} {y : MethodName} {ret : Option FieldType} {wsy Ts : List Cond} {rm : Room} {b : Nat} {As : List Value}
theorem z_iret {S : Type} {wf : S → va_W} {post : Int32 → S → Prop} {v : Int32} {u : S} {ty : FieldType} (hx : p.tables.exec = Jvm.exec) (hb : c.code = cc) (hr : meth.sig.returnType = some ty) (hlocks : meth.locks = false) (h0 : z_st G ws0 s) (hw : z_wl G ws0 s (wf u) H locs) (hn : narrow ty (.int v) = .int v) (hp : post v u) (h1 : cells ≤ mc) (h2 : slots ≤ ms) (hdg : decode cc pc = .ok (.ireturn, 1)) :
    W p l e R s m args below meth c H locs cells slots (MQ below (z_Qi G ws0 s.heap.size wf post) args s mc ms (va_A ws0 s.heap.size)) (F0 m pc ls [.int v]) :=
  W.widen h1 h2 (W.zret hx hb hr hn (fun t ht hW => ⟨⟨v, u, rfl, hp, by rw [ht]; exact hw.1, va_K.moved hW.alike h0.1, hw.2.1⟩, hw.2.2.F ht⟩) hw.2.2.2.2 hdg hlocks)
theorem z_vret {S : Type} {wf : S → va_W} {post : S → Prop} {u : S} (hx : p.tables.exec = Jvm.exec) (hb : c.code = cc) (hr : meth.sig.returnType = none) (hlocks : meth.locks = false) (h0 : z_st G ws0 s) (hw : z_wl G ws0 s (wf u) H locs) (hp : post u) (h1 : cells ≤ mc) (h2 : slots ≤ ms) (hdg : decode cc pc = .ok (.return_, 1)) :
    W p l e R s m args below meth c H locs cells slots (MQ below (z_Qv G ws0 s.heap.size wf post) args s mc ms (va_A ws0 s.heap.size)) (F0 m pc ls []) :=
  W.widen h1 h2 (W.vret hx hb hr (fun t ht hW => ⟨⟨u, rfl, hp, by rw [ht]; exact hw.1, va_K.moved hW.alike h0.1, hw.2.1⟩, hw.2.2.F ht⟩) hw.2.2.2.2 hdg hlocks)
theorem z_qret {S : Type} {wf : S → va_W} {post : Option Nat → S → Prop} {r : Option Nat} {u : S} {rt : FieldType} (hx : p.tables.exec = Jvm.exec) (hb : c.code = cc) (hr : meth.sig.returnType = some rt) (hrt : (∃ n, rt = .object n) ∨ ∃ t, rt = .array t) (hlocks : meth.locks = false) (h0 : z_st G ws0 s) (hw : z_wl G ws0 s (wf u) H locs) (hp : post r u) (h1 : cells ≤ mc) (h2 : slots ≤ ms) (hdg : decode cc pc = .ok (.areturn, 1)) :
    W p l e R s m args below meth c H locs cells slots (MQ below (z_Qq G ws0 s.heap.size wf post) args s mc ms (va_A ws0 s.heap.size)) (F0 m pc ls [va_rf r]) :=
  W.widen h1 h2 (W.aret hx hb hr hrt (by cases r; exact Or.inl rfl; exact Or.inr ⟨_, rfl⟩) (fun t ht hW => ⟨⟨r, u, rfl, hp, by rw [ht]; exact hw.1, va_K.moved hW.alike h0.1, hw.2.1⟩, hw.2.2.F ht⟩) hw.2.2.2.2 hdg hlocks)
/-- calls that return -/
theorem z_Vi {S : Type} {wf : S → va_W} {post : Int32 → S → Prop} (F : CallFix p m c cc nL s args Ts own) (hM : Met l y wsy rm (va_Pc (.ref b :: As) (z_pre G ws H.size)) (z_Qi G ws H.size wf post) mc ms (va_A ws H.size)) (cw : CallW R s args own C index y bytes maxL ret wsy rm mc ms n)
    (h0 : z_st G ws0 s) (hw : z_wl G ws0 s ws H locs) (q0 : Nat) {ci : Nat} {fs : List Value} (he : ws[q0]? = some (b, .inr (ci, fs))) {q : vw_C} (hc : kCl[ci]? = some q) (hq : q.1 = C) (hn : As.length = n) (hl : ls.size = nL) (hst : st0 = As.reverse ++ .ref b :: rest) (h8 : (rest.map fun v => v.category).sum ≤ 8) (hdg : decode cc pc = .ok (.invokevirtual index, 3)) (hf : cells + mc ≤ R.cells ∧ slots + ms ≤ R.slots)
    (kk : ∀ (r : Int32) (u : S) (H1 : Heap) (locs1 : List Loc), post r u → z_wl G ws0 s (wf u) H1 locs1 → W p l e R s m args below meth c H1 locs1 (cells + mc) (slots + ms) Q (F0 m (pc + 3) ls (.int r :: rest))) : W p l e R s m args below meth c H locs cells slots Q (F0 m pc ls st0) :=
  va_calli (va_runV (g := F0 m pc ls st0) F hM cw ⟨z_blind, hq ▸ va_recv h0.1 hw.1 hc he, z_go h0 hw⟩ rfl hn hl hst (lv_room h8) hdg hf) hw.2.2 (fun q _ h => z_in hw q h) (z_in hw) (fun r u t H1 locs1 ht _ hp hB _ _ hS => kk r u H1 locs1 hp (z_back hw hB ht hS))
theorem z_Vv {S : Type} {wf : S → va_W} {post : S → Prop} (F : CallFix p m c cc nL s args Ts own) (hM : Met l y wsy rm (va_Pc (.ref b :: As) (z_pre G ws H.size)) (z_Qv G ws H.size wf post) mc ms (va_A ws H.size)) (cw : CallW R s args own C index y bytes maxL ret wsy rm mc ms n)
    (h0 : z_st G ws0 s) (hw : z_wl G ws0 s ws H locs) (q0 : Nat) {ci : Nat} {fs : List Value} (he : ws[q0]? = some (b, .inr (ci, fs))) {q : vw_C} (hc : kCl[ci]? = some q) (hq : q.1 = C) (hn : As.length = n) (hl : ls.size = nL) (hst : st0 = As.reverse ++ .ref b :: rest) (h8 : (rest.map fun v => v.category).sum ≤ 8) (hdg : decode cc pc = .ok (.invokevirtual index, 3)) (hf : cells + mc ≤ R.cells ∧ slots + ms ≤ R.slots)
    (kk : ∀ (u : S) (H1 : Heap) (locs1 : List Loc), post u → z_wl G ws0 s (wf u) H1 locs1 → W p l e R s m args below meth c H1 locs1 (cells + mc) (slots + ms) Q (F0 m (pc + 3) ls rest)) : W p l e R s m args below meth c H locs cells slots Q (F0 m pc ls st0) :=
  va_callv (va_runV (g := F0 m pc ls st0) F hM cw ⟨z_blind, hq ▸ va_recv h0.1 hw.1 hc he, z_go h0 hw⟩ rfl hn hl hst (lv_room h8) hdg hf) hw.2.2 (fun q _ h => z_in hw q h) (z_in hw) (fun u t H1 locs1 ht _ hp hB _ _ hS => kk u H1 locs1 hp (z_back hw hB ht hS))
theorem z_Vq {S : Type} {wf : S → va_W} {post : Option Nat → S → Prop} (F : CallFix p m c cc nL s args Ts own) (hM : Met l y wsy rm (va_Pc (.ref b :: As) (z_pre G ws H.size)) (z_Qq G ws H.size wf post) mc ms (va_A ws H.size)) (cw : CallW R s args own C index y bytes maxL ret wsy rm mc ms n)
    (h0 : z_st G ws0 s) (hw : z_wl G ws0 s ws H locs) (q0 : Nat) {ci : Nat} {fs : List Value} (he : ws[q0]? = some (b, .inr (ci, fs))) {q : vw_C} (hc : kCl[ci]? = some q) (hq : q.1 = C) (hn : As.length = n) (hl : ls.size = nL) (hst : st0 = As.reverse ++ .ref b :: rest) (h8 : (rest.map fun v => v.category).sum ≤ 8) (hdg : decode cc pc = .ok (.invokevirtual index, 3)) (hf : cells + mc ≤ R.cells ∧ slots + ms ≤ R.slots)
    (kk : ∀ (r : Option Nat) (u : S) (H1 : Heap) (locs1 : List Loc), post r u → z_wl G ws0 s (wf u) H1 locs1 → W p l e R s m args below meth c H1 locs1 (cells + mc) (slots + ms) Q (F0 m (pc + 3) ls (va_rf r :: rest))) : W p l e R s m args below meth c H locs cells slots Q (F0 m pc ls st0) :=
  va_callq (va_runV (g := F0 m pc ls st0) F hM cw ⟨z_blind, hq ▸ va_recv h0.1 hw.1 hc he, z_go h0 hw⟩ rfl hn hl hst (lv_room h8) hdg hf) hw.2.2 (fun q _ h => z_in hw q h) (z_in hw) (fun r u t H1 locs1 ht _ hp hB _ _ hS => kk r u H1 locs1 hp (z_back hw hB ht hS))
theorem z_Si {S : Type} {wf : S → va_W} {post : Int32 → S → Prop} (F : CallFix p m c cc nL s args Ts own) (hM : Met l y wsy rm (va_Pc As (z_pre G ws H.size)) (z_Qi G ws H.size wf post) mc ms (va_A ws H.size)) (cw : CallB R s args own index y bytes maxL ret wsy rm mc ms n ∧ (Cond.static y).before args s = true)
    (h0 : z_st G ws0 s) (hw : z_wl G ws0 s ws H locs) (hn : As.length = n) (hl : ls.size = nL) (hst : st0 = As.reverse ++ rest) (h8 : (rest.map fun v => v.category).sum ≤ 8) (hdg : decode cc pc = .ok (.invokestatic index, 3)) (hf : cells + mc ≤ R.cells ∧ slots + ms ≤ R.slots)
    (kk : ∀ (r : Int32) (u : S) (H1 : Heap) (locs1 : List Loc), post r u → z_wl G ws0 s (wf u) H1 locs1 → W p l e R s m args below meth c H1 locs1 (cells + mc) (slots + ms) Q (F0 m (pc + 3) ls (.int r :: rest))) : W p l e R s m args below meth c H locs cells slots Q (F0 m pc ls st0) :=
  va_calli (va_runS (g := F0 m pc ls st0) F hM cw ⟨z_blind, z_go h0 hw⟩ rfl hn hl hst (lv_room h8) hdg hf) hw.2.2 (fun q _ h => z_in hw q h) (z_in hw) (fun r u t H1 locs1 ht _ hp hB _ _ hS => kk r u H1 locs1 hp (z_back hw hB ht hS))
theorem z_Iv {S : Type} {wf : S → va_W} {post : S → Prop} (F : CallFix p m c cc nL s args Ts own) (hM : Met l y wsy rm (va_Pc (.ref b :: As) (z_pre G ws H.size)) (z_Qv G ws H.size wf post) mc ms (va_A ws H.size)) (cw : CallB R s args own index y bytes maxL none wsy rm mc ms n ∧ y.name = "<init>" ∧ (Cond.instanceMethod y).before args s = true)
    (h0 : z_st G ws0 s) (hw : z_wl G ws0 s ws H locs) (hn : As.length = n) (hl : ls.size = nL) (hst : st0 = As.reverse ++ .ref b :: rest) (h8 : (rest.map fun v => v.category).sum ≤ 8) (hdg : decode cc pc = .ok (.invokespecial index, 3)) (hf : cells + mc ≤ R.cells ∧ slots + ms ≤ R.slots)
    (kk : ∀ (u : S) (H1 : Heap) (locs1 : List Loc), post u → z_wl G ws0 s (wf u) H1 locs1 → W p l e R s m args below meth c H1 locs1 (cells + mc) (slots + ms) Q (F0 m (pc + 3) ls rest)) : W p l e R s m args below meth c H locs cells slots Q (F0 m pc ls st0) :=
  va_callv (va_runI (g := F0 m pc ls st0) F hM cw ⟨z_blind, z_go h0 hw⟩ rfl hn hl hst (lv_room h8) hdg hf) hw.2.2 (fun q _ h => z_in hw q h) (z_in hw) (fun u t H1 locs1 ht _ hp hB _ _ hS => kk u H1 locs1 hp (z_back hw hB ht hS))
/-- calls that return or throw; a call that throws changes nothing -/
theorem z_VXi {S : Type} {wf : S → va_W} {post : Int32 → S → Prop} {P : String → Prop} (F : CallFix p m c cc nL s args Ts own) (hM : vx_Met l y wsy rm (va_Pc (.ref b :: As) (z_pre G ws H.size)) (z_Qi G ws H.size wf post) (z_X G ws H.size P) mc ms (va_A ws H.size)) (cw : CallW R s args own C index y bytes maxL ret wsy rm mc ms n)
    (h0 : z_st G ws0 s) (hw : z_wl G ws0 s ws H locs) (q0 : Nat) {ci : Nat} {fs : List Value} (he : ws[q0]? = some (b, .inr (ci, fs))) {q : vw_C} (hc : kCl[ci]? = some q) (hq : q.1 = C) (hn : As.length = n) (hl : ls.size = nL) (hst : st0 = As.reverse ++ .ref b :: rest) (h8 : (rest.map fun v => v.category).sum ≤ 8) (hdg : decode cc pc = .ok (.invokevirtual index, 3)) (hf : cells + mc ≤ R.cells ∧ slots + ms ≤ R.slots)
    (kx : ∀ (E : String) (ce : Cell) (q9 : Addr) (H1 : Heap) (locs1 : List Loc), P E → z_wl G ws0 s ws H1 locs1 → H1[q9]? = some ce → ce.vm = .none → s.vm.findClass E = some ce.cls → vx_W p l e R s m args below meth c H1 locs1 (cells + mc) (slots + ms) Q (F0 m pc ls rest) q9)
    (kk : ∀ (r : Int32) (u : S) (H1 : Heap) (locs1 : List Loc), post r u → z_wl G ws0 s (wf u) H1 locs1 → W p l e R s m args below meth c H1 locs1 (cells + mc) (slots + ms) Q (F0 m (pc + 3) ls (.int r :: rest))) : W p l e R s m args below meth c H locs cells slots Q (F0 m pc ls st0) :=
  vx_calli (vx_runV (g := F0 m pc ls st0) F hM cw ⟨z_blind, hq ▸ va_recv h0.1 hw.1 hc he, z_go h0 hw⟩ rfl hn hl hst (lv_room h8) hdg hf) hw.2.2 (fun q _ h => z_in hw q h) (z_in hw) (fun q _ h => z_in hw q h) (fun E ce q9 _ t H1 locs1 ht _ _ hB _ _ hS hce hcv hcl => kx E ce q9 H1 locs1 hB.1 (z_back hw hB.2 ht hS) hce hcv hcl) (fun r u t H1 locs1 ht _ hp hB _ _ hS => kk r u H1 locs1 hp (z_back hw hB ht hS))
theorem z_VXv {S : Type} {wf : S → va_W} {post : S → Prop} {P : String → Prop} (F : CallFix p m c cc nL s args Ts own) (hM : vx_Met l y wsy rm (va_Pc (.ref b :: As) (z_pre G ws H.size)) (z_Qv G ws H.size wf post) (z_X G ws H.size P) mc ms (va_A ws H.size)) (cw : CallW R s args own C index y bytes maxL ret wsy rm mc ms n)
    (h0 : z_st G ws0 s) (hw : z_wl G ws0 s ws H locs) (q0 : Nat) {ci : Nat} {fs : List Value} (he : ws[q0]? = some (b, .inr (ci, fs))) {q : vw_C} (hc : kCl[ci]? = some q) (hq : q.1 = C) (hn : As.length = n) (hl : ls.size = nL) (hst : st0 = As.reverse ++ .ref b :: rest) (h8 : (rest.map fun v => v.category).sum ≤ 8) (hdg : decode cc pc = .ok (.invokevirtual index, 3)) (hf : cells + mc ≤ R.cells ∧ slots + ms ≤ R.slots)
    (kx : ∀ (E : String) (ce : Cell) (q9 : Addr) (H1 : Heap) (locs1 : List Loc), P E → z_wl G ws0 s ws H1 locs1 → H1[q9]? = some ce → ce.vm = .none → s.vm.findClass E = some ce.cls → vx_W p l e R s m args below meth c H1 locs1 (cells + mc) (slots + ms) Q (F0 m pc ls rest) q9)
    (kk : ∀ (u : S) (H1 : Heap) (locs1 : List Loc), post u → z_wl G ws0 s (wf u) H1 locs1 → W p l e R s m args below meth c H1 locs1 (cells + mc) (slots + ms) Q (F0 m (pc + 3) ls rest)) : W p l e R s m args below meth c H locs cells slots Q (F0 m pc ls st0) :=
  vx_callv (vx_runV (g := F0 m pc ls st0) F hM cw ⟨z_blind, hq ▸ va_recv h0.1 hw.1 hc he, z_go h0 hw⟩ rfl hn hl hst (lv_room h8) hdg hf) hw.2.2 (fun q _ h => z_in hw q h) (z_in hw) (fun q _ h => z_in hw q h) (fun E ce q9 _ t H1 locs1 ht _ _ hB _ _ hS hce hcv hcl => kx E ce q9 H1 locs1 hB.1 (z_back hw hB.2 ht hS) hce hcv hcl) (fun u t H1 locs1 ht _ hp hB _ _ hS => kk u H1 locs1 hp (z_back hw hB ht hS))
theorem z_SXv {S : Type} {wf : S → va_W} {post : S → Prop} {P : String → Prop} (F : CallFix p m c cc nL s args Ts own) (hM : vx_Met l y wsy rm (va_Pc As (z_pre G ws H.size)) (z_Qv G ws H.size wf post) (z_X G ws H.size P) mc ms (va_A ws H.size)) (cw : CallB R s args own index y bytes maxL ret wsy rm mc ms n ∧ (Cond.static y).before args s = true)
    (h0 : z_st G ws0 s) (hw : z_wl G ws0 s ws H locs) (hn : As.length = n) (hl : ls.size = nL) (hst : st0 = As.reverse ++ rest) (h8 : (rest.map fun v => v.category).sum ≤ 8) (hdg : decode cc pc = .ok (.invokestatic index, 3)) (hf : cells + mc ≤ R.cells ∧ slots + ms ≤ R.slots)
    (kx : ∀ (E : String) (ce : Cell) (q9 : Addr) (H1 : Heap) (locs1 : List Loc), P E → z_wl G ws0 s ws H1 locs1 → H1[q9]? = some ce → ce.vm = .none → s.vm.findClass E = some ce.cls → vx_W p l e R s m args below meth c H1 locs1 (cells + mc) (slots + ms) Q (F0 m pc ls rest) q9)
    (kk : ∀ (u : S) (H1 : Heap) (locs1 : List Loc), post u → z_wl G ws0 s (wf u) H1 locs1 → W p l e R s m args below meth c H1 locs1 (cells + mc) (slots + ms) Q (F0 m (pc + 3) ls rest)) : W p l e R s m args below meth c H locs cells slots Q (F0 m pc ls st0) :=
  vx_callv (vx_runS (g := F0 m pc ls st0) F hM cw ⟨z_blind, z_go h0 hw⟩ rfl hn hl hst (lv_room h8) hdg hf) hw.2.2 (fun q _ h => z_in hw q h) (z_in hw) (fun q _ h => z_in hw q h) (fun E ce q9 _ t H1 locs1 ht _ _ hB _ _ hS hce hcv hcl => kx E ce q9 H1 locs1 hB.1 (z_back hw hB.2 ht hS) hce hcv hcl) (fun u t H1 locs1 ht _ hp hB _ _ hS => kk u H1 locs1 hp (z_back hw hB ht hS))
/-- an exception that goes through -/
theorem z_out {Qc : Array Value → State → Outcome → State → Prop} {P : String → Prop} {E : String} {ce : Cell} {q : Addr} (hout : ∀ x ∈ c.exceptionTable.toList, False) (hlocks : meth.locks = false) (h0 : z_st G ws0 s) (hw : z_wl G ws0 s ws0 H locs) (hce : H[q]? = some ce) (hcv : ce.vm = .none) (hcl : s.vm.findClass E = some ce.cls) (hp : P E) (h1 : cells ≤ mc) (h2 : slots ≤ ms) :
    vx_W p l e R s m args below meth c H locs cells slots (vx_MQ below Qc (z_X G ws0 s.heap.size P) args s mc ms (va_A ws0 s.heap.size)) (F0 m pc ls rest) q :=
  vx_out (fun x hx => (hout x hx).elim) hlocks hce hcv hcl (fun t ht ha => ⟨(), trivial, ⟨hp, by rw [ht]; exact hw.1, va_K.moved ha h0.1, hw.2.1⟩, hw.2.2.F ht⟩) hw.2.2.2.2 h1 h2
end ROWS
end GROUND
end
section
section ROWS2
variable {p : Program} {l : Launch} {e : Env} {R : Room} {s : State} {m : MethodId} {args : Array Value} {below : List Frame} {meth : Method} {c : Code} {H : Heap} {locs : List Loc} {cells slots : Nat} {Q : State → Prop}
variable {cc bytes : ByteArray} {pc : Nat} {ls : Array Slot} {rest st0 : List Value} {G : gG} {ws0 ws ws1 : va_W} {mc ms nL maxL n index : Nat} {own C : String} {y : MethodName} {ret : Option FieldType} {wsy Ts : List Cond} {rm : Room} {b : Nat} {As : List Value}
abbrev z_Qi0 (G : gG) (ws0 : va_W) (sz : Nat) (ws1 : va_W) (v : Int32) : Array Value → State → Outcome → State → Prop := z_Qi G ws0 sz (fun _ : Unit => ws1) (fun r _ => r = v)
abbrev z_Qq0 (G : gG) (ws0 : va_W) (sz : Nat) (ws1 : va_W) (v : Option Nat) : Array Value → State → Outcome → State → Prop := z_Qq G ws0 sz (fun _ : Unit => ws1) (fun r _ => r = v)
abbrev z_Qv0 (G : gG) (ws0 : va_W) (sz : Nat) (ws1 : va_W) : Array Value → State → Outcome → State → Prop := z_Qv G ws0 sz (fun _ : Unit => ws1) (fun _ => True)
theorem z_Vi0 {v : Int32} (F : CallFix p m c cc nL s args Ts own) (hM : Met l y wsy rm (va_Pc (.ref b :: As) (z_pre G ws H.size)) (z_Qi0 G ws H.size ws1 v) mc ms (va_A ws H.size)) (cw : CallW R s args own C index y bytes maxL ret wsy rm mc ms n)
    (h0 : z_st G ws0 s) (hw : z_wl G ws0 s ws H locs) (q0 : Nat) {ci : Nat} {fs : List Value} (he : ws[q0]? = some (b, .inr (ci, fs))) {q : vw_C} (hc : kCl[ci]? = some q) (hq : q.1 = C) (hn : As.length = n) (hl : ls.size = nL) (hst : st0 = As.reverse ++ .ref b :: rest) (h8 : (rest.map fun v => v.category).sum ≤ 8) (hdg : decode cc pc = .ok (.invokevirtual index, 3)) (hf : cells + mc ≤ R.cells ∧ slots + ms ≤ R.slots)
    (kk : ∀ (H1 : Heap) (locs1 : List Loc), z_wl G ws0 s ws1 H1 locs1 → W p l e R s m args below meth c H1 locs1 (cells + mc) (slots + ms) Q (F0 m (pc + 3) ls (.int v :: rest))) : W p l e R s m args below meth c H locs cells slots Q (F0 m pc ls st0) :=
  z_Vi F hM cw h0 hw q0 he hc hq hn hl hst h8 hdg hf (fun r _ H1 locs1 hp hw1 => by subst hp; exact kk H1 locs1 hw1)
theorem z_Vq0 {v : Option Nat} (F : CallFix p m c cc nL s args Ts own) (hM : Met l y wsy rm (va_Pc (.ref b :: As) (z_pre G ws H.size)) (z_Qq0 G ws H.size ws1 v) mc ms (va_A ws H.size)) (cw : CallW R s args own C index y bytes maxL ret wsy rm mc ms n)
    (h0 : z_st G ws0 s) (hw : z_wl G ws0 s ws H locs) (q0 : Nat) {ci : Nat} {fs : List Value} (he : ws[q0]? = some (b, .inr (ci, fs))) {q : vw_C} (hc : kCl[ci]? = some q) (hq : q.1 = C) (hn : As.length = n) (hl : ls.size = nL) (hst : st0 = As.reverse ++ .ref b :: rest) (h8 : (rest.map fun v => v.category).sum ≤ 8) (hdg : decode cc pc = .ok (.invokevirtual index, 3)) (hf : cells + mc ≤ R.cells ∧ slots + ms ≤ R.slots)
    (kk : ∀ (H1 : Heap) (locs1 : List Loc), z_wl G ws0 s ws1 H1 locs1 → W p l e R s m args below meth c H1 locs1 (cells + mc) (slots + ms) Q (F0 m (pc + 3) ls (va_rf v :: rest))) : W p l e R s m args below meth c H locs cells slots Q (F0 m pc ls st0) :=
  z_Vq F hM cw h0 hw q0 he hc hq hn hl hst h8 hdg hf (fun r _ H1 locs1 hp hw1 => by subst hp; exact kk H1 locs1 hw1)
theorem z_Vv0 (F : CallFix p m c cc nL s args Ts own) (hM : Met l y wsy rm (va_Pc (.ref b :: As) (z_pre G ws H.size)) (z_Qv0 G ws H.size ws1) mc ms (va_A ws H.size)) (cw : CallW R s args own C index y bytes maxL ret wsy rm mc ms n)
    (h0 : z_st G ws0 s) (hw : z_wl G ws0 s ws H locs) (q0 : Nat) {ci : Nat} {fs : List Value} (he : ws[q0]? = some (b, .inr (ci, fs))) {q : vw_C} (hc : kCl[ci]? = some q) (hq : q.1 = C) (hn : As.length = n) (hl : ls.size = nL) (hst : st0 = As.reverse ++ .ref b :: rest) (h8 : (rest.map fun v => v.category).sum ≤ 8) (hdg : decode cc pc = .ok (.invokevirtual index, 3)) (hf : cells + mc ≤ R.cells ∧ slots + ms ≤ R.slots)
    (kk : ∀ (H1 : Heap) (locs1 : List Loc), z_wl G ws0 s ws1 H1 locs1 → W p l e R s m args below meth c H1 locs1 (cells + mc) (slots + ms) Q (F0 m (pc + 3) ls rest)) : W p l e R s m args below meth c H locs cells slots Q (F0 m pc ls st0) :=
  z_Vv F hM cw h0 hw q0 he hc hq hn hl hst h8 hdg hf (fun _ H1 locs1 _ hw1 => kk H1 locs1 hw1)
theorem z_Si0 {v : Int32} (F : CallFix p m c cc nL s args Ts own) (hM : Met l y wsy rm (va_Pc As (z_pre G ws H.size)) (z_Qi0 G ws H.size ws1 v) mc ms (va_A ws H.size)) (cw : CallB R s args own index y bytes maxL ret wsy rm mc ms n ∧ (Cond.static y).before args s = true)
    (h0 : z_st G ws0 s) (hw : z_wl G ws0 s ws H locs) (hn : As.length = n) (hl : ls.size = nL) (hst : st0 = As.reverse ++ rest) (h8 : (rest.map fun v => v.category).sum ≤ 8) (hdg : decode cc pc = .ok (.invokestatic index, 3)) (hf : cells + mc ≤ R.cells ∧ slots + ms ≤ R.slots)
    (kk : ∀ (H1 : Heap) (locs1 : List Loc), z_wl G ws0 s ws1 H1 locs1 → W p l e R s m args below meth c H1 locs1 (cells + mc) (slots + ms) Q (F0 m (pc + 3) ls (.int v :: rest))) : W p l e R s m args below meth c H locs cells slots Q (F0 m pc ls st0) :=
  z_Si F hM cw h0 hw hn hl hst h8 hdg hf (fun r _ H1 locs1 hp hw1 => by subst hp; exact kk H1 locs1 hw1)
theorem z_Iv0 (F : CallFix p m c cc nL s args Ts own) (hM : Met l y wsy rm (va_Pc (.ref b :: As) (z_pre G ws H.size)) (z_Qv0 G ws H.size ws1) mc ms (va_A ws H.size)) (cw : CallB R s args own index y bytes maxL none wsy rm mc ms n ∧ y.name = "<init>" ∧ (Cond.instanceMethod y).before args s = true)
    (h0 : z_st G ws0 s) (hw : z_wl G ws0 s ws H locs) (hn : As.length = n) (hl : ls.size = nL) (hst : st0 = As.reverse ++ .ref b :: rest) (h8 : (rest.map fun v => v.category).sum ≤ 8) (hdg : decode cc pc = .ok (.invokespecial index, 3)) (hf : cells + mc ≤ R.cells ∧ slots + ms ≤ R.slots)
    (kk : ∀ (H1 : Heap) (locs1 : List Loc), z_wl G ws0 s ws1 H1 locs1 → W p l e R s m args below meth c H1 locs1 (cells + mc) (slots + ms) Q (F0 m (pc + 3) ls rest)) : W p l e R s m args below meth c H locs cells slots Q (F0 m pc ls st0) :=
  z_Iv F hM cw h0 hw hn hl hst h8 hdg hf (fun _ H1 locs1 _ hw1 => kk H1 locs1 hw1)
/-- a test that throws or lets pass: P says what it throws, N that it doesn't -/
abbrev z_Qn (G : gG) (ws0 : va_W) (sz : Nat) (N : Prop) : Array Value → State → Outcome → State → Prop := z_Qv G ws0 sz (fun _ : Unit => ws0) (fun _ => N)
theorem z_VXn {P : String → Prop} {N : Prop} (F : CallFix p m c cc nL s args Ts own) (hM : vx_Met l y wsy rm (va_Pc (.ref b :: As) (z_pre G ws H.size)) (z_Qn G ws H.size N) (z_X G ws H.size P) mc ms (va_A ws H.size)) (cw : CallW R s args own C index y bytes maxL ret wsy rm mc ms n)
    (h0 : z_st G ws0 s) (hw : z_wl G ws0 s ws H locs) (q0 : Nat) {ci : Nat} {fs : List Value} (he : ws[q0]? = some (b, .inr (ci, fs))) {q : vw_C} (hc : kCl[ci]? = some q) (hq : q.1 = C) (hn : As.length = n) (hl : ls.size = nL) (hst : st0 = As.reverse ++ .ref b :: rest) (h8 : (rest.map fun v => v.category).sum ≤ 8) (hdg : decode cc pc = .ok (.invokevirtual index, 3)) (hf : cells + mc ≤ R.cells ∧ slots + ms ≤ R.slots)
    (kx : ∀ (E : String) (ce : Cell) (q9 : Addr) (H1 : Heap) (locs1 : List Loc), P E → z_wl G ws0 s ws H1 locs1 → H1[q9]? = some ce → ce.vm = .none → s.vm.findClass E = some ce.cls → vx_W p l e R s m args below meth c H1 locs1 (cells + mc) (slots + ms) Q (F0 m pc ls rest) q9)
    (kk : ∀ (H1 : Heap) (locs1 : List Loc), N → z_wl G ws0 s ws H1 locs1 → W p l e R s m args below meth c H1 locs1 (cells + mc) (slots + ms) Q (F0 m (pc + 3) ls rest)) : W p l e R s m args below meth c H locs cells slots Q (F0 m pc ls st0) :=
  z_VXv F hM cw h0 hw q0 he hc hq hn hl hst h8 hdg hf kx (fun _ H1 locs1 hp hw1 => kk H1 locs1 hp hw1)
theorem z_SXn {P : String → Prop} {N : Prop} (F : CallFix p m c cc nL s args Ts own) (hM : vx_Met l y wsy rm (va_Pc As (z_pre G ws H.size)) (z_Qn G ws H.size N) (z_X G ws H.size P) mc ms (va_A ws H.size)) (cw : CallB R s args own index y bytes maxL ret wsy rm mc ms n ∧ (Cond.static y).before args s = true)
    (h0 : z_st G ws0 s) (hw : z_wl G ws0 s ws H locs) (hn : As.length = n) (hl : ls.size = nL) (hst : st0 = As.reverse ++ rest) (h8 : (rest.map fun v => v.category).sum ≤ 8) (hdg : decode cc pc = .ok (.invokestatic index, 3)) (hf : cells + mc ≤ R.cells ∧ slots + ms ≤ R.slots)
    (kx : ∀ (E : String) (ce : Cell) (q9 : Addr) (H1 : Heap) (locs1 : List Loc), P E → z_wl G ws0 s ws H1 locs1 → H1[q9]? = some ce → ce.vm = .none → s.vm.findClass E = some ce.cls → vx_W p l e R s m args below meth c H1 locs1 (cells + mc) (slots + ms) Q (F0 m pc ls rest) q9)
    (kk : ∀ (H1 : Heap) (locs1 : List Loc), N → z_wl G ws0 s ws H1 locs1 → W p l e R s m args below meth c H1 locs1 (cells + mc) (slots + ms) Q (F0 m (pc + 3) ls rest)) : W p l e R s m args below meth c H locs cells slots Q (F0 m pc ls st0) :=
  z_SXv F hM cw h0 hw hn hl hst h8 hdg hf kx (fun _ H1 locs1 hp hw1 => kk H1 locs1 hp hw1)
/-- throw new E() -/
theorem z_throw0 {Qc : Array Value → State → Outcome → State → Prop} {P : String → Prop} {cls : String} {ik ic : Nat} (hx : p.tables.exec = Jvm.exec) (hb : c.code = cc) (hl9 : l.stackTraces = false) (hown : s.vm.findClass own = some m.cls) (hk : (Cond.classLink own ik cls).before args s = true) (hini : (Cond.initialized cls).before args s = true)
    (hat : ∀ w ∈ vx_at0 own ic cls ["java/lang/RuntimeException", "java/lang/Exception"], w.before args s = true) (hgood : (Bundle.fit cls = true ∧ ∀ n ∈ (["java/lang/RuntimeException", "java/lang/Exception"] : List String), Bundle.fit n = true) ∧ ∀ w ∈ Cond.classLink own ik cls :: Cond.initialized cls :: vx_at0 own ic cls ["java/lang/RuntimeException", "java/lang/Exception"], vx_ot w = true)
    (h0 : z_st G ws0 s) (hw : z_wl G ws0 s ws0 H locs) (hsize : ls.size = c.maxLocals)
    (d0 : decode cc pc = .ok (.new ik, 3)) (d3 : decode cc (pc + 3) = .ok (.dup, 1)) (d4 : decode cc (pc + 4) = .ok (.invokespecial ic, 3)) (d7 : decode cc (pc + 7) = .ok (.athrow, 1)) (hout : ∀ x ∈ c.exceptionTable.toList, False)
    (hRf : 5 < R.frames) (hRl : (rest.map fun v => v.category).sum + 81 ≤ R.locals) (hRc : cells + 1 ≤ R.cells) (hRs : slots + 6 ≤ R.slots) (hlocks : meth.locks = false) (hp : P cls) (hc : cells + 1 ≤ mc) (hs : slots + 6 ≤ ms) :
    W p l e R s m args below meth c H locs cells slots (vx_MQ below Qc (z_X G ws0 s.heap.size P) args s mc ms (va_A ws0 s.heap.size)) (F0 m pc ls rest) :=
  vx_throw0 (names := ["java/lang/RuntimeException", "java/lang/Exception"]) (A := va_A ws0 s.heap.size) hx hb hl9 hown hgood.1.1 hgood.1.2 hk hini hat hgood.2 h0.2.2.1 h0.2.2.2.1 hw.2.2 hsize d0 d3 d4 d7 (fun x h => (hout x h).elim) hRf hRl hRc hRs hlocks
    (fun t ha h1 h2 => ⟨(), trivial, ⟨hp, hw.1.kept (fun k q hk => h2 q.1 ((hw.1 k q hk).lt)), va_K.moved ha h0.1, hw.2.1⟩, Nat.le_trans hw.2.2.1 h1, fun q g1 g2 => by rw [h2 q (Nat.lt_of_lt_of_le g1 hw.2.2.1)]; exact hw.2.2.2.1 q g1 g2⟩) hw.2.2.2.2 hc hs
/-- references that may be null -/
theorem z_cat (r : Option Nat) : (va_rf r).category = 1 := by cases r <;> rfl
theorem z_aload_n {r : Option Nat} (hx : p.tables.exec = Jvm.exec) (hb : c.code = cc) {k : Fin 4} {i : Nat} (hdg : decode cc pc = .ok (.aload_n k, 1)) (hi : (k : Nat) = i) (hl : ls[i]? = some (.val (va_rf r)))
    (kk : W p l e R s m args below meth c H locs cells slots Q (F0 m (pc + 1) ls (va_rf r :: rest))) : W p l e R s m args below meth c H locs cells slots Q (F0 m pc ls rest) := by
  cases r with
  | none => exact lv_aload_nN hx hb hdg hi hl kk
  | some a => exact lv_aload_n hx hb hdg hi hl kk
theorem z_aload {r : Option Nat} (hx : p.tables.exec = Jvm.exec) (hb : c.code = cc) {i : Nat} (hdg : decode cc pc = .ok (.aload i, 2)) (hl : ls[i]? = some (.val (va_rf r)))
    (kk : W p l e R s m args below meth c H locs cells slots Q (F0 m (pc + 2) ls (va_rf r :: rest))) : W p l e R s m args below meth c H locs cells slots Q (F0 m pc ls rest) := by
  cases r with
  | none => exact lv_aloadN hx hb hdg hl kk
  | some a => exact lv_aload hx hb hdg hl kk
theorem z_astore_n {r : Option Nat} (hx : p.tables.exec = Jvm.exec) (hb : c.code = cc) {k : Fin 4} {i nL : Nat} {lv lv' : List (Nat × Value)} (hdg : decode cc pc = .ok (.astore_n k, 1)) (hi : (k : Nat) = i) (h : lv_has ls nL lv) (hn : i < nL) (hl : (i, va_rf r) :: lv.filter (fun q => !(q.1 == i) && !(q.1 + 1 == i && q.2.category == 2)) = lv')
    (kk : ∀ ls' : Array Slot, lv_has ls' nL lv' → W p l e R s m args below meth c H locs cells slots Q (F0 m (pc + 1) ls' rest)) : W p l e R s m args below meth c H locs cells slots Q (F0 m pc ls (va_rf r :: rest)) := by
  cases r with
  | none => exact lv_astore_nN hx hb hdg hi h hn hl kk
  | some a => exact lv_astore_n hx hb hdg hi h hn hl kk
theorem z_astore {r : Option Nat} (hx : p.tables.exec = Jvm.exec) (hb : c.code = cc) {i nL : Nat} {lv lv' : List (Nat × Value)} (hdg : decode cc pc = .ok (.astore i, 2)) (h : lv_has ls nL lv) (hn : i < nL) (hl : (i, va_rf r) :: lv.filter (fun q => !(q.1 == i) && !(q.1 + 1 == i && q.2.category == 2)) = lv')
    (kk : ∀ ls' : Array Slot, lv_has ls' nL lv' → W p l e R s m args below meth c H locs cells slots Q (F0 m (pc + 2) ls' rest)) : W p l e R s m args below meth c H locs cells slots Q (F0 m pc ls (va_rf r :: rest)) := by
  cases r with
  | none => exact lv_astoreN hx hb hdg h hn hl kk
  | some a => exact lv_astore hx hb hdg h hn hl kk
theorem z_ifnull {r : Option Nat} (hx : p.tables.exec = Jvm.exec) (hb : c.code = cc) {off : Int} {tgt : Nat} (hdg : decode cc pc = .ok (.ifnull off, 3)) (ht : (pc : Int) + off = (tgt : Int)) (kn : r = none → W p l e R s m args below meth c H locs cells slots Q (F0 m tgt ls rest)) (ks : ∀ a, r = some a → W p l e R s m args below meth c H locs cells slots Q (F0 m (pc + 3) ls rest)) :
    W p l e R s m args below meth c H locs cells slots Q (F0 m pc ls (va_rf r :: rest)) := by
  cases r with
  | none => exact lv_ifnullN hx hb hdg ht (kn rfl)
  | some a => exact lv_ifnull hx hb hdg (ks a rfl)
theorem z_ifnonnull {r : Option Nat} (hx : p.tables.exec = Jvm.exec) (hb : c.code = cc) {off : Int} {tgt : Nat} (hdg : decode cc pc = .ok (.ifnonnull off, 3)) (ht : (pc : Int) + off = (tgt : Int)) (kn : r = none → W p l e R s m args below meth c H locs cells slots Q (F0 m (pc + 3) ls rest)) (ks : ∀ a, r = some a → W p l e R s m args below meth c H locs cells slots Q (F0 m tgt ls rest)) :
    W p l e R s m args below meth c H locs cells slots Q (F0 m pc ls (va_rf r :: rest)) := by
  cases r with
  | none => exact lv_ifnonnullN hx hb hdg (kn rfl)
  | some a => exact lv_ifnonnull hx hb hdg ht (ks a rfl)
end ROWS2
section PURE0
def oel {α : Type} (x : Option Nat) (n : α) (f : Nat → α) : α := match x with | none => n | some a => f a
theorem oel_none {α : Type} {n : α} {f : Nat → α} : oel none n f = n := rfl
theorem oel_some {α : Type} {n : α} {f : Nat → α} {a : Nat} : oel (some a) n f = f a := rfl
/-- what a test throws goes out, else what follows -/
def exo {α : Type} (x : Option String) (k : String ⊕ α) : String ⊕ α := match x with | none => k | some E => .inl E
theorem exo_none {α : Type} {k : String ⊕ α} : exo none k = k := rfl
theorem exo_some {α : Type} {k : String ⊕ α} {E : String} : exo (some E) k = .inl E := rfl
end PURE0
end
section
section GOODS
theorem z_gT {own : String} {idx : Nat} {y : MethodName} {b : ByteArray} {n : Nat} {r : Option FieldType} (h : ([.methodLink own idx y, .static y, .initialized y.cls, .code y b n r] : List Cond).all goB = true) : GoodIn goT (va_wsS own idx y (.code y b n r :: goT)) := by
  have hm : ∀ w ∈ va_wsS own idx y (.code y b n r :: goT), w ∈ goT := by
    intro w hw
    unfold va_wsS at hw
    rcases List.mem_append.mp hw with hw | hw
    · exact goI (List.all_eq_true.mp h w (by simp only [List.mem_cons, List.not_mem_nil, or_false] at hw ⊢; rcases hw with h | h | h <;> simp [h]))
    · rcases List.mem_cons.mp hw with rfl | hw
      · exact goI (List.all_eq_true.mp h _ (by simp))
      · exact hw
  exact goodIn_sub hm (List.all_eq_true.mpr (fun w hw => goG (hm w hw)))
theorem z_gV {own : String} {idx : Nat} {C : String} {y : MethodName} {b : ByteArray} {n : Nat} {r : Option FieldType} (h : ([.methodLink own idx y, .instanceMethod y, .selects C y y, .initialized C, .code y b n r] : List Cond).all goB = true) : GoodIn goT (wsV own idx C y (.code y b n r :: goT)) := by
  have hm : ∀ w ∈ wsV own idx C y (.code y b n r :: goT), w ∈ goT := by
    intro w hw
    unfold wsV at hw
    rcases List.mem_append.mp hw with hw | hw
    · exact goI (List.all_eq_true.mp h w (by simp only [List.mem_cons, List.not_mem_nil, or_false] at hw ⊢; rcases hw with h | h | h | h <;> simp [h]))
    · rcases List.mem_cons.mp hw with rfl | hw
      · exact goI (List.all_eq_true.mp h _ (by simp))
      · exact hw
  exact goodIn_sub hm (List.all_eq_true.mpr (fun w hw => goG (hm w hw)))
theorem z_gS {own : String} {idx : Nat} {y : MethodName} {b : ByteArray} {n : Nat} {r : Option FieldType} (h : ([.methodLink own idx y, .static y, .initialized own, .code y b n r] : List Cond).all goB = true) : GoodIn goT (wsS own idx y (.code y b n r :: goT)) := by
  have hm : ∀ w ∈ wsS own idx y (.code y b n r :: goT), w ∈ goT := by
    intro w hw
    unfold wsS at hw
    rcases List.mem_append.mp hw with hw | hw
    · exact goI (List.all_eq_true.mp h w (by simp only [List.mem_cons, List.not_mem_nil, or_false] at hw ⊢; rcases hw with h | h | h <;> simp [h]))
    · rcases List.mem_cons.mp hw with rfl | hw
      · exact goI (List.all_eq_true.mp h _ (by simp))
      · exact hw
  exact goodIn_sub hm (List.all_eq_true.mpr (fun w hw => goG (hm w hw)))
theorem gS_S_50 : GoodIn goT (wsS R_S 50 y_S_areCertificateNumbers w_S_areCertificateNumbers) := z_gS (b := b_S_areCertificateNumbers) (n := 6) (r := (Option.some Jvm.ClassFile.FieldType.boolean)) (by decide +kernel)
theorem hat_S56 {args : Array Value} {s : State} (hts : ∀ w ∈ goT, w.before args s = true) (hN : ∀ w ∈ nwL, va_Nw w s) : ∀ w ∈ vx_at0 R_S 56 "java/lang/IllegalArgumentException" ["java/lang/RuntimeException", "java/lang/Exception"], w.before args s = true :=
  vx_hat (B := [.castable "java/lang/IllegalArgumentException" "java/lang/IllegalArgumentException", .declares ⟨"java/lang/RuntimeException", "<init>", "()V"⟩, .declares ⟨"java/lang/Exception", "<init>", "()V"⟩, .declares ⟨"java/lang/Throwable", "<init>", "()V"⟩]) (fun w hw => hts w (goI ((by decide +kernel : ∀ w ∈ (vx_at0 R_S 56 "java/lang/IllegalArgumentException" ["java/lang/RuntimeException", "java/lang/Exception"]).filter goodWord, goB w = true) w hw))) (by decide +kernel) (vx_c (va_Nw.use rfl (hN _ (by decide +kernel))) (vx_c (va_Nw.use rfl (hN _ (by decide +kernel))) (vx_c (va_Nw.use rfl (hN _ (by decide +kernel))) (vx_c (va_Nw.use rfl (hN _ (by decide +kernel))) (vx_n)))))
theorem god_S56 : (Bundle.fit "java/lang/IllegalArgumentException" = true ∧ ∀ n ∈ (["java/lang/RuntimeException", "java/lang/Exception"] : List String), Bundle.fit n = true) ∧ ∀ w ∈ Cond.classLink R_S 54 "java/lang/IllegalArgumentException" :: Cond.initialized "java/lang/IllegalArgumentException" :: vx_at0 R_S 56 "java/lang/IllegalArgumentException" ["java/lang/RuntimeException", "java/lang/Exception"], vx_ot w = true := by decide +kernel
theorem gV_S_57 : GoodIn goT (wsV R_S 57 R_S y_S_isEnrolled w_S_isEnrolled) := z_gV (b := b_S_isEnrolled) (n := 2) (r := (Option.some Jvm.ClassFile.FieldType.boolean)) (by decide +kernel)
theorem gV_S_61 : GoodIn goT (wsV R_S 61 R_S y_S_rightSignature w_S_rightSignature) := z_gV (b := b_S_rightSignature) (n := 8) (r := (Option.some Jvm.ClassFile.FieldType.int)) (by decide +kernel)
theorem gS_S_65 : GoodIn goT (wsS R_S 65 y_S_requireToken w_S_requireToken) := z_gS (b := b_S_requireToken) (n := 1) (r := (Option.none : Option Jvm.ClassFile.FieldType)) (by decide +kernel)
theorem gS_S_69 : GoodIn goT (wsS R_S 69 y_S_isWithin w_S_isWithin) := z_gS (b := b_S_isWithin) (n := 3) (r := (Option.some Jvm.ClassFile.FieldType.boolean)) (by decide +kernel)
theorem gV_S_73 : GoodIn goT (wsV R_S 73 R_S y_S_requireInNoReader w_S_requireInNoReader) := z_gV (b := b_S_requireInNoReader) (n := 2) (r := (Option.none : Option Jvm.ClassFile.FieldType)) (by decide +kernel)
theorem gV_S_76 : GoodIn goT (wsV R_S 76 R_S y_S_certificateOf w_S_certificateOf) := z_gV (b := b_S_certificateOf) (n := 3) (r := (Option.some (Jvm.ClassFile.FieldType.object "SecureEntry$Certificate"))) (by decide +kernel)
theorem gV_S_83 : GoodIn goT (wsV R_S 83 R_S y_S_give w_S_give) := z_gV (b := b_S_give) (n := 3) (r := (Option.none : Option Jvm.ClassFile.FieldType)) (by decide +kernel)
theorem hat_S93 {args : Array Value} {s : State} (hts : ∀ w ∈ goT, w.before args s = true) (hN : ∀ w ∈ nwL, va_Nw w s) : ∀ w ∈ vx_at0 R_S 93 "java/lang/IllegalStateException" ["java/lang/RuntimeException", "java/lang/Exception"], w.before args s = true :=
  vx_hat (B := [.castable "java/lang/IllegalStateException" "java/lang/IllegalStateException", .declares ⟨"java/lang/RuntimeException", "<init>", "()V"⟩, .declares ⟨"java/lang/Exception", "<init>", "()V"⟩, .declares ⟨"java/lang/Throwable", "<init>", "()V"⟩]) (fun w hw => hts w (goI ((by decide +kernel : ∀ w ∈ (vx_at0 R_S 93 "java/lang/IllegalStateException" ["java/lang/RuntimeException", "java/lang/Exception"]).filter goodWord, goB w = true) w hw))) (by decide +kernel) (vx_c (va_Nw.use rfl (hN _ (by decide +kernel))) (vx_c (va_Nw.use rfl (hN _ (by decide +kernel))) (vx_c (va_Nw.use rfl (hN _ (by decide +kernel))) (vx_c (va_Nw.use rfl (hN _ (by decide +kernel))) (vx_n)))))
theorem god_S93 : (Bundle.fit "java/lang/IllegalStateException" = true ∧ ∀ n ∈ (["java/lang/RuntimeException", "java/lang/Exception"] : List String), Bundle.fit n = true) ∧ ∀ w ∈ Cond.classLink R_S 91 "java/lang/IllegalStateException" :: Cond.initialized "java/lang/IllegalStateException" :: vx_at0 R_S 93 "java/lang/IllegalStateException" ["java/lang/RuntimeException", "java/lang/Exception"], vx_ot w = true := by decide +kernel
theorem gV_S_94 : GoodIn goT (wsV R_S 94 R_S y_S_enrolledIssuers w_S_enrolledIssuers) := z_gV (b := b_S_enrolledIssuers) (n := 3) (r := (Option.some Jvm.ClassFile.FieldType.int)) (by decide +kernel)
theorem gV_S_98 : GoodIn goT (wsV R_S 98 R_S y_S_becomeUserState w_S_becomeUserState) := z_gV (b := b_S_becomeUserState) (n := 2) (r := (Option.none : Option Jvm.ClassFile.FieldType)) (by decide +kernel)
theorem gV_S_104 : GoodIn goT (wsV R_S 104 R_O y_O_write w_O_write) := z_gV (b := b_O_write) (n := 4) (r := (Option.none : Option Jvm.ClassFile.FieldType)) (by decide +kernel)
theorem gV_S_108 : GoodIn goT (wsV R_S 108 R_S y_S_requireUp w_S_requireUp) := z_gV (b := b_S_requireUp) (n := 1) (r := (Option.none : Option Jvm.ClassFile.FieldType)) (by decide +kernel)
theorem gS_S_111 : GoodIn goT (wsS R_S 111 y_S_requireEmpty w_S_requireEmpty) := z_gS (b := b_S_requireEmpty) (n := 1) (r := (Option.none : Option Jvm.ClassFile.FieldType)) (by decide +kernel)
theorem gV_S_114 : GoodIn goT (wsV R_S 114 R_S y_S_writeAbout w_S_writeAbout) := z_gV (b := b_S_writeAbout) (n := 4) (r := (Option.none : Option Jvm.ClassFile.FieldType)) (by decide +kernel)
theorem gV_S_118 : GoodIn goT (wsV R_S 118 R_S y_S_isAuthorised w_S_isAuthorised) := z_gV (b := b_S_isAuthorised) (n := 2) (r := (Option.some Jvm.ClassFile.FieldType.boolean)) (by decide +kernel)
theorem gV_S_121 : GoodIn goT (wsV R_S 121 R_S y_S_allowEntry w_S_allowEntry) := z_gV (b := b_S_allowEntry) (n := 1) (r := (Option.none : Option Jvm.ClassFile.FieldType)) (by decide +kernel)
theorem gV_S_124 : GoodIn goT (wsV R_S 124 R_S y_S_isGood w_S_isGood) := z_gV (b := b_S_isGood) (n := 2) (r := (Option.some Jvm.ClassFile.FieldType.boolean)) (by decide +kernel)
theorem gV_S_127 : GoodIn goT (wsV R_S 127 R_S y_S_turnAway w_S_turnAway) := z_gV (b := b_S_turnAway) (n := 2) (r := (Option.none : Option Jvm.ClassFile.FieldType)) (by decide +kernel)
theorem gV_S_134 : GoodIn goT (wsV R_S 134 R_S y_S_matches w_S_matches) := z_gV (b := b_S_matches) (n := 3) (r := (Option.some Jvm.ClassFile.FieldType.boolean)) (by decide +kernel)
theorem gV_S_138 : GoodIn goT (wsV R_S 138 R_S y_S_authorisationBy w_S_authorisationBy) := z_gV (b := b_S_authorisationBy) (n := 6) (r := (Option.some (Jvm.ClassFile.FieldType.object "SecureEntry$Certificate"))) (by decide +kernel)
theorem gS_S_142 : GoodIn goT (wsS R_S 142 y_S_requireFilled w_S_requireFilled) := z_gS (b := b_S_requireFilled) (n := 1) (r := (Option.none : Option Jvm.ClassFile.FieldType)) (by decide +kernel)
theorem gV_S_145 : GoodIn goT (wsV R_S 145 R_S y_S_unlock w_S_unlock) := z_gV (b := b_S_unlock) (n := 1) (r := (Option.none : Option Jvm.ClassFile.FieldType)) (by decide +kernel)
theorem gV_S_148 : GoodIn goT (wsV R_S 148 R_S y_S_authorisedRole w_S_authorisedRole) := z_gV (b := b_S_authorisedRole) (n := 3) (r := (Option.some Jvm.ClassFile.FieldType.int)) (by decide +kernel)
theorem gV_S_152 : GoodIn goT (wsV R_S 152 R_S y_S_dismissAdministrator w_S_dismissAdministrator) := z_gV (b := b_S_dismissAdministrator) (n := 1) (r := (Option.none : Option Jvm.ClassFile.FieldType)) (by decide +kernel)
theorem gV_S_155 : GoodIn goT (wsV R_S 155 R_S y_S_requireAdministrator w_S_requireAdministrator) := z_gV (b := b_S_requireAdministrator) (n := 1) (r := (Option.none : Option Jvm.ClassFile.FieldType)) (by decide +kernel)
theorem gV_S_158 : GoodIn goT (wsV R_S 158 R_S y_S_requireRole w_S_requireRole) := z_gV (b := b_S_requireRole) (n := 2) (r := (Option.none : Option Jvm.ClassFile.FieldType)) (by decide +kernel)
theorem gV_S_167 : GoodIn goT (wsV R_S 167 R_O y_O_clear w_O_clear) := z_gV (b := b_O_clear) (n := 1) (r := (Option.none : Option Jvm.ClassFile.FieldType)) (by decide +kernel)
theorem gV_S_176 : GoodIn goT (wsV R_S 176 R_S y_S_isUnlocked w_S_isUnlocked) := z_gV (b := b_S_isUnlocked) (n := 1) (r := (Option.some Jvm.ClassFile.FieldType.boolean)) (by decide +kernel)
theorem gV_S_184 : GoodIn goT (wsV R_S 184 R_S y_S_endWaitingInTime w_S_endWaitingInTime) := z_gV (b := b_S_endWaitingInTime) (n := 2) (r := (Option.none : Option Jvm.ClassFile.FieldType)) (by decide +kernel)
theorem gV_S_187 : GoodIn goT (wsV R_S 187 R_S y_S_endAdministrationInTime w_S_endAdministrationInTime) := z_gV (b := b_S_endAdministrationInTime) (n := 1) (r := (Option.none : Option Jvm.ClassFile.FieldType)) (by decide +kernel)
theorem hat_S192 {args : Array Value} {s : State} (hts : ∀ w ∈ goT, w.before args s = true) (hN : ∀ w ∈ nwL, va_Nw w s) : ∀ w ∈ vx_at0 R_S 192 "java/util/NoSuchElementException" ["java/lang/RuntimeException", "java/lang/Exception"], w.before args s = true :=
  vx_hat (B := [.castable "java/util/NoSuchElementException" "java/util/NoSuchElementException", .declares ⟨"java/lang/RuntimeException", "<init>", "()V"⟩, .declares ⟨"java/lang/Exception", "<init>", "()V"⟩, .declares ⟨"java/lang/Throwable", "<init>", "()V"⟩]) (fun w hw => hts w (goI ((by decide +kernel : ∀ w ∈ (vx_at0 R_S 192 "java/util/NoSuchElementException" ["java/lang/RuntimeException", "java/lang/Exception"]).filter goodWord, goB w = true) w hw))) (by decide +kernel) (vx_c (va_Nw.use rfl (hN _ (by decide +kernel))) (vx_c (va_Nw.use rfl (hN _ (by decide +kernel))) (vx_c (va_Nw.use rfl (hN _ (by decide +kernel))) (vx_c (va_Nw.use rfl (hN _ (by decide +kernel))) (vx_n)))))
theorem god_S192 : (Bundle.fit "java/util/NoSuchElementException" = true ∧ ∀ n ∈ (["java/lang/RuntimeException", "java/lang/Exception"] : List String), Bundle.fit n = true) ∧ ∀ w ∈ Cond.classLink R_S 190 "java/util/NoSuchElementException" :: Cond.initialized "java/util/NoSuchElementException" :: vx_at0 R_S 192 "java/util/NoSuchElementException" ["java/lang/RuntimeException", "java/lang/Exception"], vx_ot w = true := by decide +kernel
theorem gV_S_217 : GoodIn goT (wsV R_S 217 R_S y_S_isValid w_S_isValid) := z_gV (b := b_S_isValid) (n := 2) (r := (Option.some Jvm.ClassFile.FieldType.boolean)) (by decide +kernel)
theorem gS_S_221 : GoodIn goT (wsS R_S 221 y_S_asNumber w_S_asNumber) := z_gS (b := b_S_asNumber) (n := 1) (r := (Option.some Jvm.ClassFile.FieldType.int)) (by decide +kernel)
theorem gV_S_225 : GoodIn goT (wsV R_S 225 R_S y_S_isAlarmSounding w_S_isAlarmSounding) := z_gV (b := b_S_isAlarmSounding) (n := 1) (r := (Option.some Jvm.ClassFile.FieldType.boolean)) (by decide +kernel)
theorem hat_S233 {args : Array Value} {s : State} (hts : ∀ w ∈ goT, w.before args s = true) (hN : ∀ w ∈ nwL, va_Nw w s) : ∀ w ∈ vx_at0 R_S 233 "java/lang/UnsupportedOperationException" ["java/lang/RuntimeException", "java/lang/Exception"], w.before args s = true :=
  vx_hat (B := [.castable "java/lang/UnsupportedOperationException" "java/lang/UnsupportedOperationException", .declares ⟨"java/lang/RuntimeException", "<init>", "()V"⟩, .declares ⟨"java/lang/Exception", "<init>", "()V"⟩, .declares ⟨"java/lang/Throwable", "<init>", "()V"⟩]) (fun w hw => hts w (goI ((by decide +kernel : ∀ w ∈ (vx_at0 R_S 233 "java/lang/UnsupportedOperationException" ["java/lang/RuntimeException", "java/lang/Exception"]).filter goodWord, goB w = true) w hw))) (by decide +kernel) (vx_c (va_Nw.use rfl (hN _ (by decide +kernel))) (vx_c (va_Nw.use rfl (hN _ (by decide +kernel))) (vx_c (va_Nw.use rfl (hN _ (by decide +kernel))) (vx_c (va_Nw.use rfl (hN _ (by decide +kernel))) (vx_n)))))
theorem god_S233 : (Bundle.fit "java/lang/UnsupportedOperationException" = true ∧ ∀ n ∈ (["java/lang/RuntimeException", "java/lang/Exception"] : List String), Bundle.fit n = true) ∧ ∀ w ∈ Cond.classLink R_S 231 "java/lang/UnsupportedOperationException" :: Cond.initialized "java/lang/UnsupportedOperationException" :: vx_at0 R_S 233 "java/lang/UnsupportedOperationException" ["java/lang/RuntimeException", "java/lang/Exception"], vx_ot w = true := by decide +kernel
theorem gV_S_240 : GoodIn goT (wsV R_S 240 R_C y_C_isFitForItsKind w_C_isFitForItsKind) := z_gV (b := b_C_isFitForItsKind) (n := 1) (r := (Option.some Jvm.ClassFile.FieldType.boolean)) (by decide +kernel)
theorem gV_S_243 : GoodIn goT (wsV R_S 243 R_S y_S_isValidForIdHolder w_S_isValidForIdHolder) := z_gV (b := b_S_isValidForIdHolder) (n := 5) (r := (Option.some Jvm.ClassFile.FieldType.boolean)) (by decide +kernel)
theorem gV_S_246 : GoodIn goT (wsV R_S 246 R_C y_C_role w_C_role) := z_gV (b := b_C_role) (n := 1) (r := (Option.some Jvm.ClassFile.FieldType.int)) (by decide +kernel)
theorem gS_S_249 : GoodIn goT (va_wsS R_S 249 y_I_bitCount w_I_bitCount) := z_gT (b := b_I_bitCount) (n := 1) (r := (Option.some Jvm.ClassFile.FieldType.int)) (by decide +kernel)
theorem gV_S_254 : GoodIn goT (wsV R_S 254 R_C y_C_clearance w_C_clearance) := z_gV (b := b_C_clearance) (n := 1) (r := (Option.some Jvm.ClassFile.FieldType.int)) (by decide +kernel)
theorem gV_O_23 : GoodIn goT (wsV R_O 23 R_O y_O_loseOldest w_O_loseOldest) := z_gV (b := b_O_loseOldest) (n := 1) (r := (Option.none : Option Jvm.ClassFile.FieldType)) (by decide +kernel)
end GOODS
end
section
/-! the class's state: numbers (by the slot's number; 14, 15: the log's size and alarm), number arrays (0 configuration, 1 keys, 2 kinds, 3 times, 4 holders), the certificates' places, the pool of certificates and their fields -/
section STATE
abbrev CS : Type := (Nat → Int32) × (Nat → Nat → Int32) × (Nat → Option Nat) × List Nat × (Nat → Nat → Int32)
def sS (st : CS) (k : Nat) (x : Int32) : CS := (upd st.1 k x, st.2)
def sA (st : CS) (j : Nat) (f : Nat → Int32) : CS := (st.1, va_up st.2.1 j f, st.2.2)
def sM (st : CS) (i a : Nat) : CS := (st.1, st.2.1, va_up st.2.2.1 i (some a), st.2.2.2)
def sN (st : CS) (q : Nat) (w : Nat → Int32) : CS := (st.1, st.2.1, st.2.2.1, st.2.2.2.1 ++ [q], va_up st.2.2.2.2 q w)
def ceE (v : Nat → Nat → Int32) : Nat → va_E := fun a => .inr (0, [.int (v a 0), .int (v a 1), .int (v a 2), .int (v a 3), .int (v a 4), .int (v a 5), .int (v a 6)])
def wC (ad : Nat → Nat) (G : gG) (st : CS) : va_W :=
  [(ad 0, .inr (2, [.ref (ad 1), .ref (ad 2), .ref (ad 3), .ref (ad 4), .int (st.1 4), .int (st.1 5), .int (st.1 6), .int (st.1 7), .int (st.1 8), .int (st.1 9), .int (st.1 10), .int (st.1 11), .int (st.1 12), .int (st.1 13)])),
   (ad 1, .inl (G.2.1 0, 6, .inl (st.2.1 0))), (ad 2, .inl (G.2.1 0, 7, .inl (st.2.1 1))), (ad 3, .inl (G.2.1 1, 24, .inr (.inr (.inr (.inr st.2.2.1))))),
   (ad 4, .inr (1, [.ref (ad 5), .ref (ad 6), .ref (ad 7), .int (st.1 14), .int (st.1 15)])),
   (ad 5, .inl (G.2.1 0, 16, .inl (st.2.1 2))), (ad 6, .inl (G.2.1 0, 16, .inl (st.2.1 3))), (ad 7, .inl (G.2.1 0, 16, .inl (st.2.1 4)))] ++ va_pl st.2.2.2.1 (ceE st.2.2.2.2)
theorem z_pool {ad : Nat → Nat} {G : gG} {wr : va_W} {st : CS} {a : Nat} (h : a ∈ st.2.2.2.1) : ∃ k : Nat, (wC ad G st ++ wr)[k]? = some (a, .inr (0, [.int (st.2.2.2.2 a 0), .int (st.2.2.2.2 a 1), .int (st.2.2.2.2 a 2), .int (st.2.2.2.2 a 3), .int (st.2.2.2.2 a 4), .int (st.2.2.2.2 a 5), .int (st.2.2.2.2 a 6)])) :=
  List.getElem?_of_mem (List.mem_append_left _ (List.mem_append_right _ (List.mem_map.mpr ⟨a, h, rfl⟩)))
def tokOK (t : Int32) : Prop := t = -1 ∨ vp_in t 6
def InvC (st : CS) : Prop := (∀ k a, st.2.2.1 k = some a → a ∈ st.2.2.2.1) ∧ (∀ a, a ∈ st.2.2.2.1 → vp_in (st.2.2.2.2 a 1) 7 ∧ vp_in (st.2.2.2.2 a 0) 4) ∧ vp_in (st.1 14) 17 ∧ tokOK (st.1 8) ∧ tokOK (st.1 9)
theorem inv_sS {st : CS} {k : Nat} {x : Int32} (h : InvC st) (hk : 8 ≠ k ∧ 9 ≠ k ∧ 14 ≠ k) : InvC (sS st k x) := by
  refine ⟨h.1, h.2.1, ?_, ?_, ?_⟩
  · show vp_in (upd st.1 k x 14) 17
    rw [pk_un hk.2.2]; exact h.2.2.1
  · show tokOK (upd st.1 k x 8)
    rw [pk_un hk.1]; exact h.2.2.2.1
  · show tokOK (upd st.1 k x 9)
    rw [pk_un hk.2.1]; exact h.2.2.2.2
theorem inv_tok8 {st : CS} {x : Int32} (h : InvC st) (hx : tokOK x) : InvC (sS st 8 x) := ⟨h.1, h.2.1, h.2.2.1, hx, h.2.2.2.2⟩
theorem inv_tok9 {st : CS} {x : Int32} (h : InvC st) (hx : tokOK x) : InvC (sS st 9 x) := ⟨h.1, h.2.1, h.2.2.1, h.2.2.2.1, hx⟩
theorem inv_size {st : CS} {x : Int32} (h : InvC st) (hx : vp_in x 17) : InvC (sS st 14 x) := ⟨h.1, h.2.1, hx, h.2.2.2.1, h.2.2.2.2⟩
theorem inv_sA {st : CS} {j : Nat} {f : Nat → Int32} (h : InvC st) : InvC (sA st j f) := h
theorem inv_sM {st : CS} {i a : Nat} (h : InvC st) (ha : a ∈ st.2.2.2.1) : InvC (sM st i a) := by
  refine ⟨fun k b e => ?_, h.2.1, h.2.2.1, h.2.2.2.1, h.2.2.2.2⟩
  have e : va_up st.2.2.1 i (some a) k = some b := e
  unfold va_up at e
  split at e
  · cases e; exact ha
  · exact h.1 k b e
theorem inv_sN {st : CS} {q : Nat} {w : Nat → Int32} (h : InvC st) (h1 : vp_in (w 1) 7) (h0 : vp_in (w 0) 4) : InvC (sN st q w) := by
  refine ⟨fun k b e => List.mem_append_left _ (h.1 k b e), fun a ha => ?_, h.2.2.1, h.2.2.2.1, h.2.2.2.2⟩
  show vp_in (va_up st.2.2.2.2 q w a 1) 7 ∧ vp_in (va_up st.2.2.2.2 q w a 0) 4
  unfold va_up
  split
  · exact ⟨h1, h0⟩
  · next hne =>
    rcases List.mem_append.mp ha with h9 | h9
    · exact h.2.1 a h9
    · exact absurd (List.mem_singleton.mp h9) hne
theorem z_ix {p1 p2 : Int32} (h : tokOK p1) (h1 : ¬ p1 = -1) (h2 : vp_in p2 4) : vp_in (p1 * 4 + p2) 24 := by
  rcases h with h | h
  · exact absurd h h1
  · obtain ⟨j, hj, rfl⟩ := vp_in_of h (by decide)
    obtain ⟨k, hk, rfl⟩ := vp_in_of h2 (by decide)
    have e : nI j * 4 + nI k = nI (j * 4 + k) := by
      rw [show (4 : Int32) = nI 4 from rfl, pk_mul, nI_add]
    rw [e]
    exact vp_in_nI (by omega) (by decide)
theorem z_ws1 {x : Int32} (h : vp_in x 17) (h1 : x < 16) : vp_in x 16 := by
  rw [vp_in_iff] at h ⊢
  have h2 : x.toInt < (16 : Int32).toInt := Int32.lt_iff_toInt_lt.mp h1
  have h3 : (16 : Int32).toInt = 16 := by decide
  omega
theorem z_ws2 {x : Int32} (h : vp_in x 17) (h1 : x < 16) : vp_in (x + 1) 17 := by
  obtain ⟨j, hj, rfl⟩ := vp_in_of (z_ws1 h h1) (by decide)
  rw [nI_1]
  exact vp_in_nI (by omega) (by decide)
theorem z_nb {x : Int32} (h : x = 0 ∨ x = 1) : narrow .boolean (.int x) = .int x := by rcases h with rfl | rfl <;> rfl
theorem z_fb {x : Int32} (h : x = 0 ∨ x = 1) : fits .boolean (.int x) = true := by rcases h with rfl | rfl <;> rfl
theorem z_ti {x k : Int32} (h : ¬ x = k) : ¬ x.toInt = k.toInt := fun e => h (Int32.toInt_inj.mp e)
theorem z_tout3 {x : Int32} (h0 : ¬ x = 0) (h1 : ¬ x = 1) (h2 : ¬ x = 2) : x.toInt < 0 ∨ 2 < x.toInt := by
  have a0 := z_ti h0; have a1 := z_ti h1; have a2 := z_ti h2
  rw [show (0 : Int32).toInt = 0 by decide] at a0
  rw [show (1 : Int32).toInt = 1 by decide] at a1
  rw [show (2 : Int32).toInt = 2 by decide] at a2
  omega
theorem z_tout6 {x : Int32} (h0 : ¬ x = 0) (h1 : ¬ x = 1) (h2 : ¬ x = 2) (h3 : ¬ x = 3) (h4 : ¬ x = 4) (h5 : ¬ x = 5) : x.toInt < 0 ∨ 5 < x.toInt := by
  have a := z_tout3 h0 h1 h2; have a3 := z_ti h3; have a4 := z_ti h4; have a5 := z_ti h5
  rw [show (3 : Int32).toInt = 3 by decide] at a3
  rw [show (4 : Int32).toInt = 4 by decide] at a4
  rw [show (5 : Int32).toInt = 5 by decide] at a5
  omega
theorem z_tout11 {x : Int32} (h0 : ¬ x = 0) (h1 : ¬ x = 1) (h2 : ¬ x = 2) (h3 : ¬ x = 3) (h4 : ¬ x = 4) (h5 : ¬ x = 5) (h6 : ¬ x = 6) (h7 : ¬ x = 7) (h8 : ¬ x = 8) (h9 : ¬ x = 9) (h10 : ¬ x = 10) : x.toInt < 0 ∨ 10 < x.toInt := by
  have a := z_tout6 h0 h1 h2 h3 h4 h5; have a6 := z_ti h6; have a7 := z_ti h7; have a8 := z_ti h8; have a9 := z_ti h9; have a10 := z_ti h10
  rw [show (6 : Int32).toInt = 6 by decide] at a6
  rw [show (7 : Int32).toInt = 7 by decide] at a7
  rw [show (8 : Int32).toInt = 8 by decide] at a8
  rw [show (9 : Int32).toInt = 9 by decide] at a9
  rw [show (10 : Int32).toInt = 10 by decide] at a10
  omega
theorem z_fresh (L : List Nat) : ∃ q, q ∉ L := by
  refine ⟨L.foldr (fun a b => a + b) 0 + 1, fun h => ?_⟩
  have : ∀ (M : List Nat) (x : Nat), x ∈ M → x ≤ M.foldr (fun a b => a + b) 0 := by
    intro M
    induction M with
    | nil => intro x h; cases h
    | cons y M ih =>
      intro x h
      show x ≤ y + M.foldr (fun a b => a + b) 0
      rcases List.mem_cons.mp h with rfl | h
      · omega
      · have := ih x h; omega
  have := this L _ h
  omega
end STATE
end
section
section MADE
def w7 (a b c d e f g : Int32) : Nat → Int32 := fun k => match k with
  | 0 => a
  | 1 => b
  | 2 => c
  | 3 => d
  | 4 => e
  | 5 => f
  | _ => g
theorem z_inN {st : CS} {q : Nat} {w : Nat → Int32} : q ∈ (sN st q w).2.2.2.1 := List.mem_append_right _ (List.mem_singleton.mpr rfl)
theorem z_lY {X Y : va_W} {k : Nat} {y : Nat × va_E} (h : Y[k]? = some y) : (X ++ Y)[X.length + k]? = some y := by
  rw [List.getElem?_append_right (by omega), show X.length + k - X.length = k by omega]
  exact h
theorem z_sY {X Y : va_W} {k : Nat} {y : Nat × va_E} : (X ++ Y).set (X.length + k) y = X ++ Y.set k y := by
  rw [List.set_append_right _ _ (by omega), show X.length + k - X.length = k by omega]
theorem z_Dl {A : Nat → Prop} {a b : va_W} (h : va_D A (a ++ b)) : va_D A a :=
  h.by (fun k => k) (fun k q hk => by
    have hl := (List.getElem?_eq_some_iff.mp hk).1
    rw [List.getElem?_append_left hl]; exact hk) (fun _ _ _ _ e => e)
theorem z_asc {G : gG} {ws0 a b c : va_W} {s : State} {H : Heap} {locs : List Loc} (hP : va_P G.1 kCl ((a ++ b) ++ c) H) (hD : va_D (va_A ws0 s.heap.size) ((a ++ b) ++ c)) (hS : va_S (va_A ws0 s.heap.size) s.heap H locs) : z_wl G ws0 s (a ++ (b ++ c)) H locs := by
  rw [List.append_assoc] at hP hD
  exact ⟨hP, hD, hS⟩
theorem z_csa {G : gG} {ws0 a b c : va_W} {s : State} {H : Heap} {locs : List Loc} (h : z_wl G ws0 s (a ++ (b ++ c)) H locs) : z_wl G ws0 s ((a ++ b) ++ c) H locs := by
  rw [List.append_assoc]
  exact h
theorem z_into {G : gG} {ws0 wr : va_W} {s : State} {ad : Nat → Nat} {st : CS} {q : Nat} {w : Nat → Int32} {H : Heap} {locs : List Loc} (hw : z_wl G ws0 s ((wC ad G st ++ wr) ++ [(q, .inr (0, [.int (w 0), .int (w 1), .int (w 2), .int (w 3), .int (w 4), .int (w 5), .int (w 6)]))]) H locs) :
    q ∉ st.2.2.2.1 ∧ z_wl G ws0 s (wC ad G (sN st q w) ++ wr) H locs := by
  have hP := hw.1.swap
  have hD := hw.2.1.swap
  have hq : q ∉ st.2.2.2.1 := va_pl_fresh2 (z_Dl hD)
  have e : wC ad G st ++ [(q, .inr (0, [.int (w 0), .int (w 1), .int (w 2), .int (w 3), .int (w 4), .int (w 5), .int (w 6)]))] = wC ad G (sN st q w) := by
    unfold wC
    rw [List.append_assoc, va_pl_push hq]
    refine congrArg (fun l => _ ++ l) (va_pl_congr (fun a => ?_))
    show va_up (ceE st.2.2.2.2) q _ a = ceE (va_up st.2.2.2.2 q w) a
    by_cases h : a = q
    · subst h; simp [va_up, ceE]
    · simp [va_up, ceE, h]
  rw [e] at hP hD
  exact ⟨hq, hP, hD, hw.2.2⟩
theorem z_nm1 {p : Int32} (h : vp_in p 6) : ¬ p = -1 := by
  intro e
  rw [e] at h
  exact absurd h (by unfold vp_in; decide)
theorem z_gI {y : MethodName} {b : ByteArray} {n : Nat} {r : Option FieldType} (h : goB (.code y b n r) = true) : GoodIn goT (.code y b n r :: goT) := by
  have hm : ∀ w ∈ (Cond.code y b n r :: goT), w ∈ goT := by
    intro w hw
    rcases List.mem_cons.mp hw with rfl | hw
    · exact goI h
    · exact hw
  exact goodIn_sub hm (List.all_eq_true.mpr (fun w hw => goG (hm w hw)))
theorem gI_C_init : GoodIn goT w_C_init := z_gI (by decide +kernel)
end MADE
end
section
section DEFS
def f_isWithin (p1 : Int32) (p2 : Int32) (p3 : Int32) : Int32 := (if p1 < p2 then 0 else (if p3 < p1 then 0 else 1))
def f_asNumber (p1 : Int32) : Int32 := (if p1 = 0 then 0 else 1)
def f_areCertificateNumbers (p1 : Int32) (p2 : Int32) (p3 : Int32) (p4 : Int32) (p5 : Int32) (p6 : Int32) : Int32 := (if (f_isWithin p1 0 3) = 0 then 0 else (if (f_isWithin p2 0 6) = 0 then 0 else (if (f_isWithin p3 0 99) = 0 then 0 else (if (f_isWithin p4 0 65535) = 0 then 0 else (if (f_isWithin p5 0 100000) = 0 then 0 else (if (f_isWithin p6 0 100000) = 0 then 0 else 1))))))
def f_requireToken (p1 : Int32) : Option String := (if (f_isWithin p1 0 5) = 0 then some "java/util/NoSuchElementException" else none)
def f_requireEmpty (p1 : Int32) : Option String := (if p1 = (-1) then none else some "java/lang/IllegalStateException")
def f_requireFilled (p1 : Int32) : Option String := (if p1 = (-1) then some "java/lang/IllegalStateException" else none)
def f_requireInNoReader (st : CS) (p1 : Int32) : Option String := (if p1 = (st.1 8) then some "java/lang/IllegalStateException" else (if p1 = (st.1 9) then some "java/lang/IllegalStateException" else none))
def f_requireUp (st : CS)  : Option String := (if (st.1 5) = 0 then some "java/lang/IllegalStateException" else none)
def f_requireAdministrator (st : CS)  : Option String := (if (st.1 10) = 0 then some "java/lang/IllegalStateException" else none)
def f_requireRole (st : CS) (p1 : Int32) : Option String := (if (st.1 10) = p1 then none else some "java/lang/UnsupportedOperationException")
def f_isEnrolled (st : CS) (p1 : Int32) : Int32 := (if ((st.2.1 1) p1.toNatClampNeg) = 0 then 0 else 1)
def f_rightSignature (st : CS) (p1 : Int32) (p2 : Int32) (p3 : Int32) (p4 : Int32) (p5 : Int32) (p6 : Int32) : Int32 := ((((((((((p1 * 100) + p3) * 65536) + p4) - ((((p1 * 100) + p3) * 65536) + p4) / 9973 * 9973) + (p5 * 31)) + (p6 * 37)) + 1).toInt64 * ((st.2.1 1) p2.toNatClampNeg).toInt64) - (((((((((p1 * 100) + p3) * 65536) + p4) - ((((p1 * 100) + p3) * 65536) + p4) / 9973 * 9973) + (p5 * 31)) + (p6 * 37)) + 1).toInt64 * ((st.2.1 1) p2.toNatClampNeg).toInt64) / 9973 * 9973).toInt32
def f_certificateOf (st : CS) (p1 : Int32) (p2 : Int32) : Option Nat := (if p1 = (-1) then none else (st.2.2.1 ((p1 * 4) + p2).toNatClampNeg))
def f_isFitForItsKind (w : Nat → Int32)  : Int32 := (if (w 0) = 3 then (if (w 1) = 6 then (if 15 < (w 3) then 0 else 1) else 0) else (if (w 0) = 1 then (if 15 < (w 3) then 0 else 1) else 1))
def f_clearance (w : Nat → Int32)  : Int32 := ((w 3) / 4)
def f_role (w : Nat → Int32)  : Int32 := ((w 3) - (w 3) / 4 * 4)
def f_bitCount (p1 : Int32) : Int32 := ((((((((p1 - ((p1.toUInt32 >>> ((1 : Int32).toUInt32 &&& Int32.toUInt32 31)).toInt32 &&& 1431655765)) &&& 858993459) + (((p1 - ((p1.toUInt32 >>> ((1 : Int32).toUInt32 &&& Int32.toUInt32 31)).toInt32 &&& 1431655765)).toUInt32 >>> ((2 : Int32).toUInt32 &&& Int32.toUInt32 31)).toInt32 &&& 858993459)) + ((((p1 - ((p1.toUInt32 >>> ((1 : Int32).toUInt32 &&& Int32.toUInt32 31)).toInt32 &&& 1431655765)) &&& 858993459) + (((p1 - ((p1.toUInt32 >>> ((1 : Int32).toUInt32 &&& Int32.toUInt32 31)).toInt32 &&& 1431655765)).toUInt32 >>> ((2 : Int32).toUInt32 &&& Int32.toUInt32 31)).toInt32 &&& 858993459)).toUInt32 >>> ((4 : Int32).toUInt32 &&& Int32.toUInt32 31)).toInt32) &&& 252645135) + ((((((p1 - ((p1.toUInt32 >>> ((1 : Int32).toUInt32 &&& Int32.toUInt32 31)).toInt32 &&& 1431655765)) &&& 858993459) + (((p1 - ((p1.toUInt32 >>> ((1 : Int32).toUInt32 &&& Int32.toUInt32 31)).toInt32 &&& 1431655765)).toUInt32 >>> ((2 : Int32).toUInt32 &&& Int32.toUInt32 31)).toInt32 &&& 858993459)) + ((((p1 - ((p1.toUInt32 >>> ((1 : Int32).toUInt32 &&& Int32.toUInt32 31)).toInt32 &&& 1431655765)) &&& 858993459) + (((p1 - ((p1.toUInt32 >>> ((1 : Int32).toUInt32 &&& Int32.toUInt32 31)).toInt32 &&& 1431655765)).toUInt32 >>> ((2 : Int32).toUInt32 &&& Int32.toUInt32 31)).toInt32 &&& 858993459)).toUInt32 >>> ((4 : Int32).toUInt32 &&& Int32.toUInt32 31)).toInt32) &&& 252645135).toUInt32 >>> ((8 : Int32).toUInt32 &&& Int32.toUInt32 31)).toInt32) + (((((((p1 - ((p1.toUInt32 >>> ((1 : Int32).toUInt32 &&& Int32.toUInt32 31)).toInt32 &&& 1431655765)) &&& 858993459) + (((p1 - ((p1.toUInt32 >>> ((1 : Int32).toUInt32 &&& Int32.toUInt32 31)).toInt32 &&& 1431655765)).toUInt32 >>> ((2 : Int32).toUInt32 &&& Int32.toUInt32 31)).toInt32 &&& 858993459)) + ((((p1 - ((p1.toUInt32 >>> ((1 : Int32).toUInt32 &&& Int32.toUInt32 31)).toInt32 &&& 1431655765)) &&& 858993459) + (((p1 - ((p1.toUInt32 >>> ((1 : Int32).toUInt32 &&& Int32.toUInt32 31)).toInt32 &&& 1431655765)).toUInt32 >>> ((2 : Int32).toUInt32 &&& Int32.toUInt32 31)).toInt32 &&& 858993459)).toUInt32 >>> ((4 : Int32).toUInt32 &&& Int32.toUInt32 31)).toInt32) &&& 252645135) + ((((((p1 - ((p1.toUInt32 >>> ((1 : Int32).toUInt32 &&& Int32.toUInt32 31)).toInt32 &&& 1431655765)) &&& 858993459) + (((p1 - ((p1.toUInt32 >>> ((1 : Int32).toUInt32 &&& Int32.toUInt32 31)).toInt32 &&& 1431655765)).toUInt32 >>> ((2 : Int32).toUInt32 &&& Int32.toUInt32 31)).toInt32 &&& 858993459)) + ((((p1 - ((p1.toUInt32 >>> ((1 : Int32).toUInt32 &&& Int32.toUInt32 31)).toInt32 &&& 1431655765)) &&& 858993459) + (((p1 - ((p1.toUInt32 >>> ((1 : Int32).toUInt32 &&& Int32.toUInt32 31)).toInt32 &&& 1431655765)).toUInt32 >>> ((2 : Int32).toUInt32 &&& Int32.toUInt32 31)).toInt32 &&& 858993459)).toUInt32 >>> ((4 : Int32).toUInt32 &&& Int32.toUInt32 31)).toInt32) &&& 252645135).toUInt32 >>> ((8 : Int32).toUInt32 &&& Int32.toUInt32 31)).toInt32).toUInt32 >>> ((16 : Int32).toUInt32 &&& Int32.toUInt32 31)).toInt32) &&& 63)
def f_matches (st : CS) (p1 : Int32) (p2 : Int32) : Int32 := (if ((st.2.1 0) (4 : Int32).toNatClampNeg) < (f_bitCount (p1 ^^^ p2)) then 0 else 1)
def f_give (st : CS) (p1 : Int32) (a2 : Nat) : CS := (sM st (((p1 * 4) + (st.2.2.2.2 a2 0)).toNatClampNeg) a2)
def f_authorisationBy (st : CS) (a1 : Nat) : Nat → Int32 := w7 3 6 (st.2.2.2.2 a1 2) ((4 * (if ((st.2.1 0) (5 : Int32).toNatClampNeg) < (f_clearance (st.2.2.2.2 a1)) then ((st.2.1 0) (5 : Int32).toNatClampNeg) else (f_clearance (st.2.2.2.2 a1)))) + (f_role (st.2.2.2.2 a1))) (st.1 4) (if 100000 < ((st.1 4) + ((st.2.1 0) (3 : Int32).toNatClampNeg)) then 100000 else ((st.1 4) + ((st.2.1 0) (3 : Int32).toNatClampNeg))) (f_rightSignature st 3 6 (st.2.2.2.2 a1 2) ((4 * (if ((st.2.1 0) (5 : Int32).toNatClampNeg) < (f_clearance (st.2.2.2.2 a1)) then ((st.2.1 0) (5 : Int32).toNatClampNeg) else (f_clearance (st.2.2.2.2 a1)))) + (f_role (st.2.2.2.2 a1))) (st.1 4) (if 100000 < ((st.1 4) + ((st.2.1 0) (3 : Int32).toNatClampNeg)) then 100000 else ((st.1 4) + ((st.2.1 0) (3 : Int32).toNatClampNeg))))
def f_isValid (st : CS) (q1 : Option Nat) : Int32 := (oel q1 0 (fun a_1 => (if (f_isEnrolled st (st.2.2.2.2 a_1 1)) = 0 then 0 else (if (f_isWithin (st.1 4) (st.2.2.2.2 a_1 4) (st.2.2.2.2 a_1 5)) = 0 then 0 else (if (f_isFitForItsKind (st.2.2.2.2 a_1)) = 0 then 0 else (if (st.2.2.2.2 a_1 6) = (f_rightSignature st (st.2.2.2.2 a_1 0) (st.2.2.2.2 a_1 1) (st.2.2.2.2 a_1 2) (st.2.2.2.2 a_1 3) (st.2.2.2.2 a_1 4) (st.2.2.2.2 a_1 5)) then 1 else 0))))))
def f_isValidForIdHolder (st : CS) (p1 : Int32) (p2 : Int32) : Int32 := (oel (f_certificateOf st p1 0) 0 (fun a_16 => (oel (f_certificateOf st p1 p2) 0 (fun a_21 => (if (st.2.2.2.2 a_16 2) = (st.2.2.2.2 a_21 2) then (if (f_isValid st (some a_16)) = 0 then 0 else (if (f_isValid st (some a_21)) = 0 then 0 else 1)) else 0)))))
def f_isGood (st : CS) (p1 : Int32) : Int32 := (if (f_isValidForIdHolder st p1 1) = 0 then 0 else (if (f_isValidForIdHolder st p1 2) = 0 then 0 else 1))
def f_isAuthorised (st : CS) (p1 : Int32) : Int32 := (f_isValidForIdHolder st p1 3)
def f_authorisedRole (st : CS) (p1 : Int32) : Int32 := (oel (f_certificateOf st p1 3) 0 (fun a_8 => (f_role (st.2.2.2.2 a_8))))
def f_isUnlocked (st : CS)  : Int32 := (if (st.1 11) ≤ (st.1 4) then 0 else 1)
def f_isAlarmSounding (st : CS)  : Int32 := (if (st.1 13) = 0 then 0 else (if (f_isUnlocked st) = 0 then (if (st.1 4) < (st.1 12) then 0 else 1) else 0))
def f_becomeUserState (st : CS) (p1 : Int32) : CS := (sS (sS st 6 p1) 7 (st.1 4))
def f_unlock (st : CS)  : CS := (sS (sS st 11 ((st.1 4) + ((st.2.1 0) (0 : Int32).toNatClampNeg))) 12 (((st.1 4) + ((st.2.1 0) (0 : Int32).toNatClampNeg)) + ((st.2.1 0) (1 : Int32).toNatClampNeg)))
def f_loseOldest (st : CS)  : CS := (sS (sA (sA (sA (sS st 14 12) 2 (va_cpy (st.2.1 2) (st.2.1 2) (4 : Int32).toNatClampNeg (0 : Int32).toNatClampNeg (12 : Int32).toNatClampNeg)) 3 (va_cpy (st.2.1 3) (st.2.1 3) (4 : Int32).toNatClampNeg (0 : Int32).toNatClampNeg (12 : Int32).toNatClampNeg)) 4 (va_cpy (st.2.1 4) (st.2.1 4) (4 : Int32).toNatClampNeg (0 : Int32).toNatClampNeg (12 : Int32).toNatClampNeg)) 15 1)
def f_clear (st : CS)  : CS := (sS (sS st 14 0) 15 0)
def f_write (st : CS) (p1 : Int32) (p2 : Int32) (p3 : Int32) : CS := (if (st.1 14) < 16 then (sS (sA (sA (sA st 2 (upd (st.2.1 2) (st.1 14).toNatClampNeg p1)) 3 (upd (st.2.1 3) (st.1 14).toNatClampNeg p2)) 4 (upd (st.2.1 4) (st.1 14).toNatClampNeg p3)) 14 ((st.1 14) + 1)) else (sS (sA (sA (sA (f_loseOldest st) 2 (upd ((f_loseOldest st).2.1 2) ((f_loseOldest st).1 14).toNatClampNeg p1)) 3 (upd ((f_loseOldest st).2.1 3) ((f_loseOldest st).1 14).toNatClampNeg p2)) 4 (upd ((f_loseOldest st).2.1 4) ((f_loseOldest st).1 14).toNatClampNeg p3)) 14 (((f_loseOldest st).1 14) + 1)))
def f_writeAbout (st : CS) (p1 : Int32) (p2 : Int32) : CS := (oel (f_certificateOf st p1 0) (f_write st p2 (st.1 4) (-1)) (fun a_17 => (f_write st p2 (st.1 4) (st.2.2.2.2 a_17 2))))
def f_allowEntry (st : CS)  : CS := (f_writeAbout (f_becomeUserState st 2) ((f_becomeUserState st 2).1 8) 7)
def f_turnAway (st : CS) (p1 : Int32) : CS := (f_writeAbout (f_becomeUserState st 3) ((f_becomeUserState st 3).1 8) p1)
def f_dismissAdministrator (st : CS)  : CS := (f_writeAbout (sS st 10 0) (st.1 9) 11)
def f_endWaitingInTime (st : CS)  : CS := (if (st.1 6) = 1 then (if ((st.1 4) - (st.1 7)) < ((st.2.1 0) (2 : Int32).toNatClampNeg) then st else (f_turnAway st 6)) else (if (st.1 6) = 2 then (if ((st.1 4) - (st.1 7)) < ((st.2.1 0) (2 : Int32).toNatClampNeg) then st else (f_turnAway st 6)) else st))
def f_endAdministrationInTime (st : CS)  : CS := (if (st.1 10) = 0 then st else (if (f_isValid st (f_certificateOf st (st.1 9) 3)) = 0 then (f_dismissAdministrator st) else st))
def f_signature (st : CS) (p1 : Int32) (p2 : Int32) (p3 : Int32) (p4 : Int32) (p5 : Int32) (p6 : Int32) : String ⊕ (Int32 × CS) := (if (f_areCertificateNumbers p1 p2 p3 p4 p5 p6) = 0 then .inl "java/lang/IllegalArgumentException" else (if (f_isEnrolled st p2) = 0 then .inr (0, st) else .inr ((f_rightSignature st p1 p2 p3 p4 p5 p6), st)))
def f_enrol (st : CS) (p1 : Int32) (p2 : Int32) : String ⊕ (Int32 × CS) := (if (f_isWithin p1 0 5) = 0 then .inl "java/lang/IllegalArgumentException" else (if (f_isWithin p2 0 9972) = 0 then .inl "java/lang/IllegalArgumentException" else (if (st.1 5) = 0 then .inr (((st.2.1 1) p1.toNatClampNeg), (sA st 1 (upd (st.2.1 1) p1.toNatClampNeg p2))) else .inl "java/lang/IllegalStateException")))
def f_remove (st : CS)  : String ⊕ (Int32 × CS) := (exo (f_requireUp st) (exo (f_requireFilled (st.1 8)) (if (st.1 6) = 2 then .inr ((st.1 8), (f_becomeUserState (sS (f_unlock st) 8 (-1)) 0)) else (if (st.1 6) = 1 then .inr ((st.1 8), (f_becomeUserState (sS (f_writeAbout st (st.1 8) 8) 8 (-1)) 0)) else .inr ((st.1 8), (f_becomeUserState (sS st 8 (-1)) 0))))))
def f_insert (st : CS) (p1 : Int32) : String ⊕ (Int32 × CS) := (exo (f_requireUp st) (exo (f_requireToken p1) (exo (f_requireInNoReader st p1) (exo (f_requireEmpty (st.1 8)) (if (f_isAuthorised (f_writeAbout (sS st 8 p1) p1 2) p1) = 0 then (if (f_isGood (f_writeAbout (sS st 8 p1) p1 2) p1) = 0 then .inr (((f_turnAway (f_writeAbout (sS st 8 p1) p1 2) 3).1 6), (f_turnAway (f_writeAbout (sS st 8 p1) p1 2) 3)) else .inr (((f_becomeUserState (f_writeAbout (sS st 8 p1) p1 2) 1).1 6), (f_becomeUserState (f_writeAbout (sS st 8 p1) p1 2) 1))) else .inr (((f_allowEntry (f_writeAbout (sS st 8 p1) p1 2)).1 6), (f_allowEntry (f_writeAbout (sS st 8 p1) p1 2))))))))
def f_logon (st : CS) (p1 : Int32) : String ⊕ (Int32 × CS) := (exo (f_requireUp st) (exo (f_requireToken p1) (exo (f_requireInNoReader st p1) (exo (f_requireEmpty (st.1 9)) (if (f_isAuthorised (sS st 9 p1) p1) = 0 then .inr (((f_writeAbout (sS (sS st 9 p1) 10 0) p1 16).1 10), (f_writeAbout (sS (sS st 9 p1) 10 0) p1 16)) else (if (f_authorisedRole (sS st 9 p1) p1) = 0 then .inr (((f_writeAbout (sS (sS st 9 p1) 10 (f_authorisedRole (sS st 9 p1) p1)) p1 16).1 10), (f_writeAbout (sS (sS st 9 p1) 10 (f_authorisedRole (sS st 9 p1) p1)) p1 16)) else .inr (((f_writeAbout (sS (sS st 9 p1) 10 (f_authorisedRole (sS st 9 p1) p1)) p1 10).1 10), (f_writeAbout (sS (sS st 9 p1) 10 (f_authorisedRole (sS st 9 p1) p1)) p1 10))))))))
def f_logoff (st : CS)  : String ⊕ (Int32 × CS) := (exo (f_requireUp st) (exo (f_requireFilled (st.1 9)) (if (st.1 10) = 0 then .inr ((st.1 9), (sS st 9 (-1))) else .inr ((st.1 9), (sS (f_dismissAdministrator st) 9 (-1))))))
def f_override (st : CS)  : String ⊕ (Int32 × CS) := (exo (f_requireUp st) (exo (f_requireAdministrator st) (exo (f_requireRole st 1) (.inr (((f_writeAbout (f_unlock st) ((f_unlock st).1 9) 12).1 11), (f_writeAbout (f_unlock st) ((f_unlock st).1 9) 12))))))
def f_archive (st : CS)  : String ⊕ (Int32 × CS) := (exo (f_requireUp st) (exo (f_requireAdministrator st) (exo (f_requireRole st 2) (.inr ((st.1 14), (f_writeAbout (f_clear st) ((f_clear st).1 9) 13))))))
def f_configure (st : CS) (p1 : Int32) (p2 : Int32) : String ⊕ (Int32 × CS) := (exo (f_requireUp st) (exo (f_requireAdministrator st) (exo (f_requireRole st 3) (if (f_isWithin p1 0 5) = 0 then .inl "java/lang/IllegalArgumentException" else (if (f_isWithin p2 0 (hiC p1.toNatClampNeg)) = 0 then .inl "java/lang/IllegalArgumentException" else .inr (((st.2.1 0) p1.toNatClampNeg), (f_writeAbout (sA st 0 (upd (st.2.1 0) p1.toNatClampNeg p2)) (st.1 9) 14)))))))
def f_shutdown (st : CS)  : String ⊕ (Int32 × CS) := (exo (f_requireUp st) (exo (f_requireAdministrator st) (if (st.1 13) = 0 then (exo (f_requireRole st 3) (.inr (1, (sS (f_becomeUserState (sS (sS (sS (sS (f_writeAbout st (st.1 9) 15) 5 0) 11 ((f_writeAbout st (st.1 9) 15).1 4)) 8 (-1)) 9 (-1)) 0) 10 0)))) else .inl "java/lang/IllegalStateException")))
def f_door (st : CS) (p1 : Int32) : String ⊕ (Int32 × CS) := (if p1 = (st.1 13) then .inr (0, st) else (if p1 = 0 then .inr (1, (sS st 13 p1)) else (if (f_isUnlocked (sS st 13 p1)) = 0 then .inr (1, (sS (f_write (sS st 13 p1) 9 (st.1 4) (-1)) 12 (((f_write (sS st 13 p1) 9 (st.1 4) (-1)).1 4) + (((f_write (sS st 13 p1) 9 (st.1 4) (-1)).2.1 0) (1 : Int32).toNatClampNeg)))) else .inr (1, (sS st 13 p1)))))
def f_entry (st : CS) (p1 : Int32) (p2 : Int32) : String ⊕ (Int32 × CS) := (if (f_isWithin p1 0 ((st.1 14) - 1)) = 0 then .inl "java/util/NoSuchElementException" else (if p2 = 0 then .inr (((st.2.1 2) p1.toNatClampNeg), st) else (if p2 = 1 then .inr (((st.2.1 3) p1.toNatClampNeg), st) else (if p2 = 2 then .inr (((st.2.1 4) p1.toNatClampNeg), st) else .inl "java/lang/IllegalArgumentException"))))
def f_certificate (st : CS) (p1 : Int32) (p2 : Int32) (p3 : Int32) : String ⊕ (Int32 × CS) := (exo (f_requireToken p1) (if (f_isWithin p2 0 3) = 0 then .inl "java/lang/IllegalArgumentException" else (if (f_isWithin p3 0 6) = 0 then .inl "java/lang/IllegalArgumentException" else (oel (f_certificateOf st p1 p2) (.inl "java/util/NoSuchElementException") (fun a_41 => (if p3 = 0 then .inr ((st.2.2.2.2 a_41 1), st) else (if p3 = 1 then .inr ((st.2.2.2.2 a_41 2), st) else (if p3 = 2 then .inr ((st.2.2.2.2 a_41 3), st) else (if p3 = 3 then .inr ((st.2.2.2.2 a_41 4), st) else (if p3 = 4 then .inr ((st.2.2.2.2 a_41 5), st) else (if p3 = 5 then .inr ((st.2.2.2.2 a_41 6), st) else .inr ((f_asNumber (f_isValid st (some a_41))), st))))))))))))
def f_count (st : CS) (p1 : Int32) : String ⊕ (Int32 × CS) := (if p1 = 0 then .inr ((f_asNumber (st.1 5)), st) else (if p1 = 1 then .inr ((st.1 6), st) else (if p1 = 2 then .inr ((st.1 10), st) else (if p1 = 3 then .inr ((f_asNumber (f_isUnlocked st)), st) else (if p1 = 4 then .inr ((f_asNumber (st.1 13)), st) else (if p1 = 5 then .inr ((f_asNumber (f_isAlarmSounding st)), st) else (if p1 = 6 then .inr ((f_asNumber (st.1 15)), st) else (if p1 = 7 then .inr ((st.1 14), st) else (if p1 = 8 then .inr ((st.1 4), st) else (if p1 = 9 then .inr ((st.1 8), st) else (if p1 = 10 then .inr ((st.1 9), st) else .inl "java/lang/IllegalArgumentException")))))))))))
def f_certify (st : CS) (p1 : Int32) (p2 : Int32) (p3 : Int32) (p4 : Int32) (p5 : Int32) (p6 : Int32) (p7 : Int32) (p8 : Int32) (q9 : Nat) : String ⊕ (Int32 × CS) := (exo (f_requireToken p1) (if (f_areCertificateNumbers p2 p3 p4 p5 p6 p7) = 0 then .inl "java/lang/IllegalArgumentException" else (if (f_isWithin p8 0 9972) = 0 then .inl "java/lang/IllegalArgumentException" else (exo (f_requireInNoReader st p1) (oel (f_certificateOf st p1 p2) (.inr (1, (f_give (sN st q9 (w7 p2 p3 p4 p5 p6 p7 p8)) p1 q9))) (fun a_51 => .inr (0, (f_give (sN st q9 (w7 p2 p3 p4 p5 p6 p7 p8)) p1 q9))))))))
def f_finger (st : CS) (p1 : Int32) (q9 : Nat) : String ⊕ (Int32 × CS) := (exo (f_requireUp st) (if (st.1 6) = 1 then (if (f_isWithin p1 0 65535) = 0 then .inl "java/lang/IllegalArgumentException" else (oel (f_certificateOf st (st.1 8) 1) (.inr (((f_turnAway st 5).1 6), (f_turnAway st 5))) (fun a_59 => (oel (f_certificateOf st (st.1 8) 2) (.inr (((f_turnAway st 5).1 6), (f_turnAway st 5))) (fun a_63 => (if (f_matches st p1 (st.2.2.2.2 a_63 3)) = 0 then .inr (((f_turnAway st 5).1 6), (f_turnAway st 5)) else .inr (((f_allowEntry (f_writeAbout (f_give (sN st q9 (f_authorisationBy st a_59)) (st.1 8) q9) ((f_give (sN st q9 (f_authorisationBy st a_59)) (st.1 8) q9).1 8) 4)).1 6), (f_allowEntry (f_writeAbout (f_give (sN st q9 (f_authorisationBy st a_59)) (st.1 8) q9) ((f_give (sN st q9 (f_authorisationBy st a_59)) (st.1 8) q9).1 8) 4))))))))) else .inl "java/lang/IllegalStateException"))
end DEFS
end
section
/-! what the tests give, and that no method leaves the state's bounds -/
section FACTS
theorem win_in {x hi : Int32} {n : Nat} (h : ¬ f_isWithin x 0 hi = 0) (hn : hi.toInt < (n : Int)) : vp_in x n := by
  unfold f_isWithin at h
  rw [vp_in_iff]
  by_cases h1 : x < 0
  · rw [if_pos h1] at h; exact absurd rfl h
  · rw [if_neg h1] at h
    by_cases h2 : hi < x
    · rw [if_pos h2] at h; exact absurd rfl h
    · rw [Int32.lt_iff_toInt_lt] at h1 h2
      rw [Int32.toInt_zero] at h1
      omega
theorem acn_all {p1 p2 p3 p4 p5 p6 : Int32} (h : ¬ f_areCertificateNumbers p1 p2 p3 p4 p5 p6 = 0) : ¬ f_isWithin p1 0 3 = 0 ∧ ¬ f_isWithin p2 0 6 = 0 ∧ ¬ f_isWithin p3 0 99 = 0 ∧ ¬ f_isWithin p4 0 65535 = 0 ∧ ¬ f_isWithin p5 0 100000 = 0 ∧ ¬ f_isWithin p6 0 100000 = 0 := by
  unfold f_areCertificateNumbers at h
  refine ⟨fun h1 => ?_, fun h1 => ?_, fun h1 => ?_, fun h1 => ?_, fun h1 => ?_, fun h1 => ?_⟩ <;> (apply h; simp [h1])
theorem acn_iss {p1 p2 p3 p4 p5 p6 : Int32} (h : ¬ f_areCertificateNumbers p1 p2 p3 p4 p5 p6 = 0) : vp_in p2 7 := win_in (acn_all h).2.1 (by decide)
theorem acn_kind {p1 p2 p3 p4 p5 p6 : Int32} (h : ¬ f_areCertificateNumbers p1 p2 p3 p4 p5 p6 = 0) : vp_in p1 4 := win_in (acn_all h).1 (by decide)
theorem rtk_in {p1 : Int32} (h : f_requireToken p1 = none) : vp_in p1 6 := by
  unfold f_requireToken at h
  by_cases h1 : f_isWithin p1 0 5 = 0
  · rw [if_pos h1] at h; cases h
  · exact win_in h1 (by decide)
theorem ent_in {st : CS} {p1 : Int32} (hI : InvC st) (h : ¬ f_isWithin p1 0 (st.1 14 - 1) = 0) : vp_in p1 16 := by
  obtain ⟨j, hj, e⟩ := vp_in_of hI.2.2.1 (by decide)
  refine win_in h ?_
  rw [e, show (1 : Int32) = nI 1 from rfl, pk_sub_toInt (by omega) (by omega)]
  omega
theorem cof_mem {st : CS} (hI : InvC st) {t k : Int32} : ∀ a, f_certificateOf st t k = some a → a ∈ st.2.2.2.1 := by
  intro a h
  unfold f_certificateOf at h
  by_cases h1 : t = -1
  · rw [if_pos h1] at h; cases h
  · rw [if_neg h1] at h
    exact hI.1 _ a h
theorem vfh_01 {st : CS} {p1 p2 : Int32} : f_isValidForIdHolder st p1 p2 = 0 ∨ f_isValidForIdHolder st p1 p2 = 1 := by
  unfold f_isValidForIdHolder
  generalize f_certificateOf st p1 0 = x
  generalize f_certificateOf st p1 p2 = y
  cases x with
  | none => exact Or.inl rfl
  | some a => cases y with
    | none => exact Or.inl rfl
    | some b =>
      rw [oel_some, oel_some]
      split
      · split
        · exact Or.inl rfl
        · split
          · exact Or.inl rfl
          · exact Or.inr rfl
      · exact Or.inl rfl
theorem inv_f_becomeUserState {st : CS} {x : Int32} (h : InvC st) : InvC (f_becomeUserState st x) := inv_sS (inv_sS h (by decide)) (by decide)
theorem inv_f_unlock {st : CS} (h : InvC st) : InvC (f_unlock st) := inv_sS (inv_sS h (by decide)) (by decide)
theorem inv_f_loseOldest {st : CS} (h : InvC st) : InvC (f_loseOldest st) := inv_sS (inv_sA (inv_sA (inv_sA (inv_size h (show vp_in 12 17 by unfold vp_in; decide))))) (by decide)
theorem inv_f_clear {st : CS} (h : InvC st) : InvC (f_clear st) := inv_sS (inv_size h (show vp_in 0 17 by unfold vp_in; decide)) (by decide)
theorem inv_f_write {st : CS} {a b c : Int32} (h : InvC st) : InvC (f_write st a b c) := by
  unfold f_write
  split
  · next h1 => exact inv_size (inv_sA (inv_sA (inv_sA h))) (z_ws2 h.2.2.1 h1)
  · exact inv_size (inv_sA (inv_sA (inv_sA (inv_f_loseOldest h)))) (show vp_in (12 + 1) 17 by unfold vp_in; decide)
theorem inv_f_writeAbout {st : CS} {a b : Int32} (h : InvC st) : InvC (f_writeAbout st a b) := by
  unfold f_writeAbout
  cases f_certificateOf st a 0 with
  | none => exact inv_f_write h
  | some q => exact inv_f_write h
theorem inv_f_allowEntry {st : CS} (h : InvC st) : InvC (f_allowEntry st) := inv_f_writeAbout (inv_f_becomeUserState h)
theorem inv_f_turnAway {st : CS} {k : Int32} (h : InvC st) : InvC (f_turnAway st k) := inv_f_writeAbout (inv_f_becomeUserState h)
theorem inv_f_dismissAdministrator {st : CS} (h : InvC st) : InvC (f_dismissAdministrator st) := inv_f_writeAbout (inv_sS h (by decide))
theorem inv_f_endWaitingInTime {st : CS} (h : InvC st) : InvC (f_endWaitingInTime st) := by
  unfold f_endWaitingInTime
  (repeat' split) <;> first | exact h | exact inv_f_turnAway h
theorem inv_f_endAdministrationInTime {st : CS} (h : InvC st) : InvC (f_endAdministrationInTime st) := by
  unfold f_endAdministrationInTime
  (repeat' split) <;> first | exact h | exact inv_f_dismissAdministrator h
end FACTS
section FACTS2
theorem cof_tok {st : CS} (hI : InvC st) {k : Int32} {a : Nat} (h : f_certificateOf st (st.1 8) k = some a) : vp_in (st.1 8) 6 := by
  unfold f_certificateOf at h
  by_cases h1 : st.1 8 = -1
  · rw [if_pos h1] at h; cases h
  · rcases hI.2.2.2.1 with h2 | h2
    · exact absurd h2 h1
    · exact h2
theorem inv_f_give {st : CS} {x : Int32} {a : Nat} (h : InvC st) (hm : a ∈ st.2.2.2.1) : InvC (f_give st x a) := inv_sM h hm
end FACTS2
end
section
section CON
theorem d_I_bitCount_0 : decode b_I_bitCount 0 = .ok (.iload_n 0, 1) := by decide +kernel
theorem d_I_bitCount_1 : decode b_I_bitCount 1 = .ok (.iload_n 0, 1) := by decide +kernel
theorem d_I_bitCount_2 : decode b_I_bitCount 2 = .ok (.iconst 1, 1) := by decide +kernel
theorem d_I_bitCount_3 : decode b_I_bitCount 3 = .ok (.iushr, 1) := by decide +kernel
theorem d_I_bitCount_4 : decode b_I_bitCount 4 = .ok (.ldc_w 265, 3) := by decide +kernel
theorem d_I_bitCount_7 : decode b_I_bitCount 7 = .ok (.iand, 1) := by decide +kernel
theorem d_I_bitCount_8 : decode b_I_bitCount 8 = .ok (.isub, 1) := by decide +kernel
theorem d_I_bitCount_9 : decode b_I_bitCount 9 = .ok (.istore_n 0, 1) := by decide +kernel
theorem d_I_bitCount_10 : decode b_I_bitCount 10 = .ok (.iload_n 0, 1) := by decide +kernel
theorem d_I_bitCount_11 : decode b_I_bitCount 11 = .ok (.ldc_w 266, 3) := by decide +kernel
theorem d_I_bitCount_14 : decode b_I_bitCount 14 = .ok (.iand, 1) := by decide +kernel
theorem d_I_bitCount_15 : decode b_I_bitCount 15 = .ok (.iload_n 0, 1) := by decide +kernel
theorem d_I_bitCount_16 : decode b_I_bitCount 16 = .ok (.iconst 2, 1) := by decide +kernel
theorem d_I_bitCount_17 : decode b_I_bitCount 17 = .ok (.iushr, 1) := by decide +kernel
theorem d_I_bitCount_18 : decode b_I_bitCount 18 = .ok (.ldc_w 266, 3) := by decide +kernel
theorem d_I_bitCount_21 : decode b_I_bitCount 21 = .ok (.iand, 1) := by decide +kernel
theorem d_I_bitCount_22 : decode b_I_bitCount 22 = .ok (.iadd, 1) := by decide +kernel
theorem d_I_bitCount_23 : decode b_I_bitCount 23 = .ok (.istore_n 0, 1) := by decide +kernel
theorem d_I_bitCount_24 : decode b_I_bitCount 24 = .ok (.iload_n 0, 1) := by decide +kernel
theorem d_I_bitCount_25 : decode b_I_bitCount 25 = .ok (.iload_n 0, 1) := by decide +kernel
theorem d_I_bitCount_26 : decode b_I_bitCount 26 = .ok (.iconst 4, 1) := by decide +kernel
theorem d_I_bitCount_27 : decode b_I_bitCount 27 = .ok (.iushr, 1) := by decide +kernel
theorem d_I_bitCount_28 : decode b_I_bitCount 28 = .ok (.iadd, 1) := by decide +kernel
theorem d_I_bitCount_29 : decode b_I_bitCount 29 = .ok (.ldc_w 267, 3) := by decide +kernel
theorem d_I_bitCount_32 : decode b_I_bitCount 32 = .ok (.iand, 1) := by decide +kernel
theorem d_I_bitCount_33 : decode b_I_bitCount 33 = .ok (.istore_n 0, 1) := by decide +kernel
theorem d_I_bitCount_34 : decode b_I_bitCount 34 = .ok (.iload_n 0, 1) := by decide +kernel
theorem d_I_bitCount_35 : decode b_I_bitCount 35 = .ok (.iload_n 0, 1) := by decide +kernel
theorem d_I_bitCount_36 : decode b_I_bitCount 36 = .ok (.bipush 8, 2) := by decide +kernel
theorem d_I_bitCount_38 : decode b_I_bitCount 38 = .ok (.iushr, 1) := by decide +kernel
theorem d_I_bitCount_39 : decode b_I_bitCount 39 = .ok (.iadd, 1) := by decide +kernel
theorem d_I_bitCount_40 : decode b_I_bitCount 40 = .ok (.istore_n 0, 1) := by decide +kernel
theorem d_I_bitCount_41 : decode b_I_bitCount 41 = .ok (.iload_n 0, 1) := by decide +kernel
theorem d_I_bitCount_42 : decode b_I_bitCount 42 = .ok (.iload_n 0, 1) := by decide +kernel
theorem d_I_bitCount_43 : decode b_I_bitCount 43 = .ok (.bipush 16, 2) := by decide +kernel
theorem d_I_bitCount_45 : decode b_I_bitCount 45 = .ok (.iushr, 1) := by decide +kernel
theorem d_I_bitCount_46 : decode b_I_bitCount 46 = .ok (.iadd, 1) := by decide +kernel
theorem d_I_bitCount_47 : decode b_I_bitCount 47 = .ok (.istore_n 0, 1) := by decide +kernel
theorem d_I_bitCount_48 : decode b_I_bitCount 48 = .ok (.iload_n 0, 1) := by decide +kernel
theorem d_I_bitCount_49 : decode b_I_bitCount 49 = .ok (.bipush 63, 2) := by decide +kernel
theorem d_I_bitCount_51 : decode b_I_bitCount 51 = .ok (.iand, 1) := by decide +kernel
theorem d_I_bitCount_52 : decode b_I_bitCount 52 = .ok (.ireturn, 1) := by decide +kernel
set_option maxHeartbeats 4000000 in
set_option maxRecDepth 100000 in
theorem c_C_init (l : Launch) (G : gG) (X : va_W) (sz a0 : Nat) (p1 p2 p3 p4 p5 p6 p7 : Int32) : Met l y_C_init w_C_init { frames := 1, cells := 0, slots := 0, locals := 12 } (va_Pc [.ref a0, .int p1, .int p2, .int p3, .int p4, .int p5, .int p6, .int p7] (z_pre G (X ++ [(a0, .inr (0, [.int 0, .int 0, .int 0, .int 0, .int 0, .int 0, .int 0]))]) sz)) (z_Qv0 G (X ++ [(a0, .inr (0, [.int 0, .int 0, .int 0, .int 0, .int 0, .int 0, .int 0]))]) sz (X ++ [(a0, .inr (0, [.int p1, .int p2, .int p3, .int p4, .int p5, .int p6, .int p7]))])) 0 0 (va_A (X ++ [(a0, .inr (0, [.int 0, .int 0, .int 0, .int 0, .int 0, .int 0, .int 0]))]) sz) := by
  refine Met.ofW (cc := b_C_init) (maxL := 8) (ret := none) (by decide) rfl ?_
  intro p e s m args below meth c s₁ B hml hv
  obtain ⟨rfl, hsz, hP, hK, hD0, ham⟩ := hv
  subst hsz
  have hx := B.exec
  have hb := B.bytes
  have hr := B.returns
  have hts : ∀ w ∈ goT, w.before _ s = true := fun w h => atoms_spec (ws := w_C_init) B.pre w (List.mem_cons_of_mem _ h)
  have hg : ∀ w, goB w = true → w.before _ s = true := fun w h => hts w (goI h)
  have hown : s.vm.findClass R_C = some m.cls := findClass_of_methodNamed B.named
  have hlocks := B.notSynchronized
  have hin : meth.name = "<init>" := (name_of_methodNamed B.named B.method).1
  have h0 : z_st G (X ++ [(a0, .inr (0, [.int 0, .int 0, .int 0, .int 0, .int 0, .int 0, .int 0]))]) s := ⟨hK, ham⟩
  have hw : z_wl G (X ++ [(a0, .inr (0, [.int 0, .int 0, .int 0, .int 0, .int 0, .int 0, .int 0]))]) s (X ++ [(a0, .inr (0, [.int 0, .int 0, .int 0, .int 0, .int 0, .int 0, .int 0]))]) s.heap [] := z_0 hP hD0
  have hl := lv_entry ([.ref a0, .int p1, .int p2, .int p3, .int p4, .int p5, .int p6, .int p7]) (n := 8) (Nat.le_of_ble_eq_true rfl)
  rw [lg_entry_eq]
  generalize (lg_sl ([.ref a0, .int p1, .int p2, .int p3, .int p4, .int p5, .int p6, .int p7]) ++ List.replicate (8 - (lg_sl ([.ref a0, .int p1, .int p2, .int p3, .int p4, .int p5, .int p6, .int p7])).length) Slot.unset).toArray = ls at hl ⊢
  have hl : lv_has ls 8 [(0, .ref a0), (1, .int p1), (2, .int p2), (3, .int p3), (4, .int p4), (5, .int p5), (6, .int p6), (7, .int p7)] := hl
  refine lv_aload_n hx hb d_C_init_0 rfl (lv_at hl 0 rfl) ?_
  refine W.objInit hx hb hown (hg (.methodLink R_C 3 objectInit) (by decide +kernel)) (hg (.instanceMethod objectInit) (by decide +kernel)) (hg (.code objectInit ⟨#[0xb1]⟩ 1 none) (by decide +kernel)) rfl (by rw [hml]; exact hl.1) rfl d_C_init_1 (Nat.le_of_ble_eq_true rfl) (Nat.le_of_ble_eq_true rfl) ?_
  refine W.eq (g2 := F0 m 4 ls []) rfl ?_
  refine lv_aload_n hx hb d_C_init_4 rfl (lv_at hl 0 rfl) ?_
  refine lv_iload_n hx hb d_C_init_5 rfl (lv_at hl 1 rfl) ?_
  refine va_putF (D := G.1) (ci := 0) (v := .int p1) (ty := .int) (C := R_C) (T := T_C) (N := 7) hx hb hts in_C ty_C ty_C_ok n_C hown h0.1 hw.1 hw.2.1 hw.2.2 (X.length + 0) (z_lY rfl) rfl 0 (by decide) (hg (.fieldLink R_C 9 "SecureEntry$Certificate" "kind" "I") (by decide +kernel)) (fun _ h9 => h9) rfl hin rfl (by decide +kernel) rfl rfl (Nat.le_of_ble_eq_true rfl) d_C_init_6 (fun H locs hP hD hS => ?_)
  rw [z_sY] at hP hD
  have hw : z_wl G (X ++ [(a0, .inr (0, [.int 0, .int 0, .int 0, .int 0, .int 0, .int 0, .int 0]))]) s (X ++ [(a0, .inr (0, [.int p1, .int 0, .int 0, .int 0, .int 0, .int 0, .int 0]))]) H locs := ⟨hP, hD, hS⟩
  refine lv_aload_n hx hb d_C_init_9 rfl (lv_at hl 0 rfl) ?_
  refine lv_iload_n hx hb d_C_init_10 rfl (lv_at hl 2 rfl) ?_
  refine va_putF (D := G.1) (ci := 0) (v := .int p2) (ty := .int) (C := R_C) (T := T_C) (N := 7) hx hb hts in_C ty_C ty_C_ok n_C hown h0.1 hw.1 hw.2.1 hw.2.2 (X.length + 0) (z_lY rfl) rfl 1 (by decide) (hg (.fieldLink R_C 15 "SecureEntry$Certificate" "issuer" "I") (by decide +kernel)) (fun _ h9 => h9) rfl hin rfl (by decide +kernel) rfl rfl (Nat.le_of_ble_eq_true rfl) d_C_init_11 (fun H locs hP hD hS => ?_)
  rw [z_sY] at hP hD
  have hw : z_wl G (X ++ [(a0, .inr (0, [.int 0, .int 0, .int 0, .int 0, .int 0, .int 0, .int 0]))]) s (X ++ [(a0, .inr (0, [.int p1, .int p2, .int 0, .int 0, .int 0, .int 0, .int 0]))]) H locs := ⟨hP, hD, hS⟩
  refine lv_aload_n hx hb d_C_init_14 rfl (lv_at hl 0 rfl) ?_
  refine lv_iload_n hx hb d_C_init_15 rfl (lv_at hl 3 rfl) ?_
  refine va_putF (D := G.1) (ci := 0) (v := .int p3) (ty := .int) (C := R_C) (T := T_C) (N := 7) hx hb hts in_C ty_C ty_C_ok n_C hown h0.1 hw.1 hw.2.1 hw.2.2 (X.length + 0) (z_lY rfl) rfl 2 (by decide) (hg (.fieldLink R_C 18 "SecureEntry$Certificate" "holder" "I") (by decide +kernel)) (fun _ h9 => h9) rfl hin rfl (by decide +kernel) rfl rfl (Nat.le_of_ble_eq_true rfl) d_C_init_16 (fun H locs hP hD hS => ?_)
  rw [z_sY] at hP hD
  have hw : z_wl G (X ++ [(a0, .inr (0, [.int 0, .int 0, .int 0, .int 0, .int 0, .int 0, .int 0]))]) s (X ++ [(a0, .inr (0, [.int p1, .int p2, .int p3, .int 0, .int 0, .int 0, .int 0]))]) H locs := ⟨hP, hD, hS⟩
  refine lv_aload_n hx hb d_C_init_19 rfl (lv_at hl 0 rfl) ?_
  refine lv_iload hx hb d_C_init_20 (lv_at hl 4 rfl) ?_
  refine va_putF (D := G.1) (ci := 0) (v := .int p4) (ty := .int) (C := R_C) (T := T_C) (N := 7) hx hb hts in_C ty_C ty_C_ok n_C hown h0.1 hw.1 hw.2.1 hw.2.2 (X.length + 0) (z_lY rfl) rfl 3 (by decide) (hg (.fieldLink R_C 21 "SecureEntry$Certificate" "value" "I") (by decide +kernel)) (fun _ h9 => h9) rfl hin rfl (by decide +kernel) rfl rfl (Nat.le_of_ble_eq_true rfl) d_C_init_22 (fun H locs hP hD hS => ?_)
  rw [z_sY] at hP hD
  have hw : z_wl G (X ++ [(a0, .inr (0, [.int 0, .int 0, .int 0, .int 0, .int 0, .int 0, .int 0]))]) s (X ++ [(a0, .inr (0, [.int p1, .int p2, .int p3, .int p4, .int 0, .int 0, .int 0]))]) H locs := ⟨hP, hD, hS⟩
  refine lv_aload_n hx hb d_C_init_25 rfl (lv_at hl 0 rfl) ?_
  refine lv_iload hx hb d_C_init_26 (lv_at hl 5 rfl) ?_
  refine va_putF (D := G.1) (ci := 0) (v := .int p5) (ty := .int) (C := R_C) (T := T_C) (N := 7) hx hb hts in_C ty_C ty_C_ok n_C hown h0.1 hw.1 hw.2.1 hw.2.2 (X.length + 0) (z_lY rfl) rfl 4 (by decide) (hg (.fieldLink R_C 24 "SecureEntry$Certificate" "from" "I") (by decide +kernel)) (fun _ h9 => h9) rfl hin rfl (by decide +kernel) rfl rfl (Nat.le_of_ble_eq_true rfl) d_C_init_28 (fun H locs hP hD hS => ?_)
  rw [z_sY] at hP hD
  have hw : z_wl G (X ++ [(a0, .inr (0, [.int 0, .int 0, .int 0, .int 0, .int 0, .int 0, .int 0]))]) s (X ++ [(a0, .inr (0, [.int p1, .int p2, .int p3, .int p4, .int p5, .int 0, .int 0]))]) H locs := ⟨hP, hD, hS⟩
  refine lv_aload_n hx hb d_C_init_31 rfl (lv_at hl 0 rfl) ?_
  refine lv_iload hx hb d_C_init_32 (lv_at hl 6 rfl) ?_
  refine va_putF (D := G.1) (ci := 0) (v := .int p6) (ty := .int) (C := R_C) (T := T_C) (N := 7) hx hb hts in_C ty_C ty_C_ok n_C hown h0.1 hw.1 hw.2.1 hw.2.2 (X.length + 0) (z_lY rfl) rfl 5 (by decide) (hg (.fieldLink R_C 27 "SecureEntry$Certificate" "to" "I") (by decide +kernel)) (fun _ h9 => h9) rfl hin rfl (by decide +kernel) rfl rfl (Nat.le_of_ble_eq_true rfl) d_C_init_34 (fun H locs hP hD hS => ?_)
  rw [z_sY] at hP hD
  have hw : z_wl G (X ++ [(a0, .inr (0, [.int 0, .int 0, .int 0, .int 0, .int 0, .int 0, .int 0]))]) s (X ++ [(a0, .inr (0, [.int p1, .int p2, .int p3, .int p4, .int p5, .int p6, .int 0]))]) H locs := ⟨hP, hD, hS⟩
  refine lv_aload_n hx hb d_C_init_37 rfl (lv_at hl 0 rfl) ?_
  refine lv_iload hx hb d_C_init_38 (lv_at hl 7 rfl) ?_
  refine va_putF (D := G.1) (ci := 0) (v := .int p7) (ty := .int) (C := R_C) (T := T_C) (N := 7) hx hb hts in_C ty_C ty_C_ok n_C hown h0.1 hw.1 hw.2.1 hw.2.2 (X.length + 0) (z_lY rfl) rfl 6 (by decide) (hg (.fieldLink R_C 30 "SecureEntry$Certificate" "signature" "I") (by decide +kernel)) (fun _ h9 => h9) rfl hin rfl (by decide +kernel) rfl rfl (Nat.le_of_ble_eq_true rfl) d_C_init_40 (fun H locs hP hD hS => ?_)
  rw [z_sY] at hP hD
  have hw : z_wl G (X ++ [(a0, .inr (0, [.int 0, .int 0, .int 0, .int 0, .int 0, .int 0, .int 0]))]) s (X ++ [(a0, .inr (0, [.int p1, .int p2, .int p3, .int p4, .int p5, .int p6, .int p7]))]) H locs := ⟨hP, hD, hS⟩
  exact z_vret (wf := fun _ : Unit => (X ++ [(a0, .inr (0, [.int p1, .int p2, .int p3, .int p4, .int p5, .int p6, .int p7]))])) (post := fun _ => True) (u := ()) (cells := 0) (slots := 0) (mc := 0) (ms := 0) hx hb hr hlocks h0 hw trivial (by decide) (by decide) d_C_init_43
end CON
end
section
section CON
set_option maxHeartbeats 4000000 in
set_option maxRecDepth 100000 in
theorem c_S_isWithin (l : Launch) (G : gG) (ws : va_W) (sz : Nat) (p1 : Int32) (p2 : Int32) (p3 : Int32)  : Met l y_S_isWithin w_S_isWithin { frames := 0, cells := 0, slots := 0, locals := 0 } (va_Pc [.int p1, .int p2, .int p3] (z_pre G ws sz)) (z_Qi0 G ws sz ws (f_isWithin p1 p2 p3)) 0 0 (va_A ws sz) := by
  refine Met.ofW (cc := b_S_isWithin) (maxL := 3) (ret := (some .boolean)) (by decide) rfl ?_
  intro p e s m args below meth c s₁ B hml hv
  obtain ⟨rfl, hsz, hP, hK, hD0, ham⟩ := hv
  subst hsz
  have hx := B.exec
  have hb := B.bytes
  have hr := B.returns
  have hts : ∀ w ∈ goT, w.before _ s = true := fun w h => atoms_spec (ws := w_S_isWithin) B.pre w (List.mem_cons_of_mem _ h)
  have hg : ∀ w, goB w = true → w.before _ s = true := fun w h => hts w (goI h)
  have hown : s.vm.findClass R_S = some m.cls := findClass_of_methodNamed B.named
  have hlocks := B.notSynchronized
  have h0 : z_st G ws s := ⟨hK, ham⟩
  have hw : z_wl G ws s ws s.heap [] := z_0 hP hD0
  have hl := lv_entry ([.int p1, .int p2, .int p3]) (n := 3) (Nat.le_of_ble_eq_true rfl)
  rw [lg_entry_eq]
  generalize (lg_sl ([.int p1, .int p2, .int p3]) ++ List.replicate (3 - (lg_sl ([.int p1, .int p2, .int p3])).length) Slot.unset).toArray = ls at hl ⊢
  have hl : lv_has ls 3 [(0, .int p1), (1, .int p2), (2, .int p3)] := hl
  refine lv_iload_n hx hb d_S_isWithin_0 rfl (lv_at hl 0 rfl) ?_
  refine lv_iload_n hx hb d_S_isWithin_1 rfl (lv_at hl 1 rfl) ?_
  refine lv_icmp_lt (tgt := 14) hx hb d_S_isWithin_2 (by decide) (fun c_2 => ?_) (fun c_2 => ?_)
  · refine lv_iconst (v := 0) hx hb d_S_isWithin_14 (by decide) ?_
    exact z_iret (wf := fun _ : Unit => ws) (u := ()) hx hb hr hlocks h0 hw rfl (by rw [f_isWithin, if_pos c_2]) (Nat.le_of_ble_eq_true rfl) (Nat.le_of_ble_eq_true rfl) d_S_isWithin_15
  · refine lv_iload_n hx hb d_S_isWithin_5 rfl (lv_at hl 0 rfl) ?_
    refine lv_iload_n hx hb d_S_isWithin_6 rfl (lv_at hl 2 rfl) ?_
    refine lv_icmp_gt (tgt := 14) hx hb d_S_isWithin_7 (by decide) (fun c_7 => ?_) (fun c_7 => ?_)
    · refine lv_iconst (v := 0) hx hb d_S_isWithin_14 (by decide) ?_
      exact z_iret (wf := fun _ : Unit => ws) (u := ()) hx hb hr hlocks h0 hw rfl (by rw [f_isWithin, if_neg c_2, if_pos c_7]) (Nat.le_of_ble_eq_true rfl) (Nat.le_of_ble_eq_true rfl) d_S_isWithin_15
    · refine lv_iconst (v := 1) hx hb d_S_isWithin_10 (by decide) ?_
      refine lv_goto (tgt := 15) hx hb d_S_isWithin_11 (by decide) ?_
      exact z_iret (wf := fun _ : Unit => ws) (u := ()) hx hb hr hlocks h0 hw rfl (by rw [f_isWithin, if_neg c_2, if_neg c_7]) (Nat.le_of_ble_eq_true rfl) (Nat.le_of_ble_eq_true rfl) d_S_isWithin_15
set_option maxHeartbeats 4000000 in
set_option maxRecDepth 100000 in
theorem c_S_asNumber (l : Launch) (G : gG) (ws : va_W) (sz : Nat) (p1 : Int32)  : Met l y_S_asNumber w_S_asNumber { frames := 0, cells := 0, slots := 0, locals := 0 } (va_Pc [.int p1] (z_pre G ws sz)) (z_Qi0 G ws sz ws (f_asNumber p1)) 0 0 (va_A ws sz) := by
  refine Met.ofW (cc := b_S_asNumber) (maxL := 1) (ret := (some .int)) (by decide) rfl ?_
  intro p e s m args below meth c s₁ B hml hv
  obtain ⟨rfl, hsz, hP, hK, hD0, ham⟩ := hv
  subst hsz
  have hx := B.exec
  have hb := B.bytes
  have hr := B.returns
  have hts : ∀ w ∈ goT, w.before _ s = true := fun w h => atoms_spec (ws := w_S_asNumber) B.pre w (List.mem_cons_of_mem _ h)
  have hg : ∀ w, goB w = true → w.before _ s = true := fun w h => hts w (goI h)
  have hown : s.vm.findClass R_S = some m.cls := findClass_of_methodNamed B.named
  have hlocks := B.notSynchronized
  have h0 : z_st G ws s := ⟨hK, ham⟩
  have hw : z_wl G ws s ws s.heap [] := z_0 hP hD0
  have hl := lv_entry ([.int p1]) (n := 1) (Nat.le_of_ble_eq_true rfl)
  rw [lg_entry_eq]
  generalize (lg_sl ([.int p1]) ++ List.replicate (1 - (lg_sl ([.int p1])).length) Slot.unset).toArray = ls at hl ⊢
  have hl : lv_has ls 1 [(0, .int p1)] := hl
  refine lv_iload_n hx hb d_S_asNumber_0 rfl (lv_at hl 0 rfl) ?_
  refine lv_if_eq (tgt := 8) hx hb d_S_asNumber_1 (by decide) (fun c_1 => ?_) (fun c_1 => ?_)
  · refine lv_iconst (v := 0) hx hb d_S_asNumber_8 (by decide) ?_
    exact z_iret (wf := fun _ : Unit => ws) (u := ()) hx hb hr hlocks h0 hw rfl (by rw [f_asNumber, if_pos c_1]) (Nat.le_of_ble_eq_true rfl) (Nat.le_of_ble_eq_true rfl) d_S_asNumber_9
  · refine lv_iconst (v := 1) hx hb d_S_asNumber_4 (by decide) ?_
    refine lv_goto (tgt := 9) hx hb d_S_asNumber_5 (by decide) ?_
    exact z_iret (wf := fun _ : Unit => ws) (u := ()) hx hb hr hlocks h0 hw rfl (by rw [f_asNumber, if_neg c_1]) (Nat.le_of_ble_eq_true rfl) (Nat.le_of_ble_eq_true rfl) d_S_asNumber_9
set_option maxHeartbeats 4000000 in
set_option maxRecDepth 100000 in
theorem c_S_areCertificateNumbers (l : Launch) (G : gG) (ws : va_W) (sz : Nat) (p1 : Int32) (p2 : Int32) (p3 : Int32) (p4 : Int32) (p5 : Int32) (p6 : Int32)  : Met l y_S_areCertificateNumbers w_S_areCertificateNumbers { frames := 1, cells := 0, slots := 0, locals := 22 } (va_Pc [.int p1, .int p2, .int p3, .int p4, .int p5, .int p6] (z_pre G ws sz)) (z_Qi0 G ws sz ws (f_areCertificateNumbers p1 p2 p3 p4 p5 p6)) 0 0 (va_A ws sz) := by
  refine Met.ofW (cc := b_S_areCertificateNumbers) (maxL := 6) (ret := (some .boolean)) (by decide) rfl ?_
  intro p e s m args below meth c s₁ B hml hv
  obtain ⟨rfl, hsz, hP, hK, hD0, ham⟩ := hv
  subst hsz
  have hx := B.exec
  have hb := B.bytes
  have hr := B.returns
  have hts : ∀ w ∈ goT, w.before _ s = true := fun w h => atoms_spec (ws := w_S_areCertificateNumbers) B.pre w (List.mem_cons_of_mem _ h)
  have hg : ∀ w, goB w = true → w.before _ s = true := fun w h => hts w (goI h)
  have hown : s.vm.findClass R_S = some m.cls := findClass_of_methodNamed B.named
  have hlocks := B.notSynchronized
  have h0 : z_st G ws s := ⟨hK, ham⟩
  have hw : z_wl G ws s ws s.heap [] := z_0 hP hD0
  have hl := lv_entry ([.int p1, .int p2, .int p3, .int p4, .int p5, .int p6]) (n := 6) (Nat.le_of_ble_eq_true rfl)
  rw [lg_entry_eq]
  generalize (lg_sl ([.int p1, .int p2, .int p3, .int p4, .int p5, .int p6]) ++ List.replicate (6 - (lg_sl ([.int p1, .int p2, .int p3, .int p4, .int p5, .int p6])).length) Slot.unset).toArray = ls at hl ⊢
  have hl : lv_has ls 6 [(0, .int p1), (1, .int p2), (2, .int p3), (3, .int p4), (4, .int p5), (5, .int p6)] := hl
  refine lv_iload_n hx hb d_S_areCertificateNumbers_0 rfl (lv_at hl 0 rfl) ?_
  refine lv_iconst (v := 0) hx hb d_S_areCertificateNumbers_1 (by decide) ?_
  refine lv_iconst (v := 3) hx hb d_S_areCertificateNumbers_2 (by decide) ?_
  refine z_Si0 (As := [.int p1, .int 0, .int 3]) (v := (f_isWithin p1 0 3)) ⟨hx, hb, hml, hown, hts⟩ (c_S_isWithin l G ws _ p1 0 3) (cwS 3 hts gS_S_69 rfl rfl rfl (by decide +kernel) ⟨Nat.le_of_ble_eq_true rfl, Nat.le_of_ble_eq_true rfl⟩) h0 hw rfl hl.1 rfl (Nat.le_of_ble_eq_true rfl) d_S_areCertificateNumbers_3 ⟨Nat.le_of_ble_eq_true rfl, Nat.le_of_ble_eq_true rfl⟩ (fun H locs hw => ?_)
  refine lv_if_eq (tgt := 65) hx hb d_S_areCertificateNumbers_6 (by decide) (fun c_6 => ?_) (fun c_6 => ?_)
  · refine lv_iconst (v := 0) hx hb d_S_areCertificateNumbers_65 (by decide) ?_
    exact z_iret (wf := fun _ : Unit => ws) (u := ()) hx hb hr hlocks h0 hw rfl (by rw [f_areCertificateNumbers, if_pos c_6]) (Nat.le_of_ble_eq_true rfl) (Nat.le_of_ble_eq_true rfl) d_S_areCertificateNumbers_66
  · refine lv_iload_n hx hb d_S_areCertificateNumbers_9 rfl (lv_at hl 1 rfl) ?_
    refine lv_iconst (v := 0) hx hb d_S_areCertificateNumbers_10 (by decide) ?_
    refine lv_bipush (v := 6) hx hb d_S_areCertificateNumbers_11 (by decide) ?_
    refine z_Si0 (As := [.int p2, .int 0, .int 6]) (v := (f_isWithin p2 0 6)) ⟨hx, hb, hml, hown, hts⟩ (c_S_isWithin l G ws _ p2 0 6) (cwS 3 hts gS_S_69 rfl rfl rfl (by decide +kernel) ⟨Nat.le_of_ble_eq_true rfl, Nat.le_of_ble_eq_true rfl⟩) h0 hw rfl hl.1 rfl (Nat.le_of_ble_eq_true rfl) d_S_areCertificateNumbers_13 ⟨Nat.le_of_ble_eq_true rfl, Nat.le_of_ble_eq_true rfl⟩ (fun H locs hw => ?_)
    refine lv_if_eq (tgt := 65) hx hb d_S_areCertificateNumbers_16 (by decide) (fun c_16 => ?_) (fun c_16 => ?_)
    · refine lv_iconst (v := 0) hx hb d_S_areCertificateNumbers_65 (by decide) ?_
      exact z_iret (wf := fun _ : Unit => ws) (u := ()) hx hb hr hlocks h0 hw rfl (by rw [f_areCertificateNumbers, if_neg c_6, if_pos c_16]) (Nat.le_of_ble_eq_true rfl) (Nat.le_of_ble_eq_true rfl) d_S_areCertificateNumbers_66
    · refine lv_iload_n hx hb d_S_areCertificateNumbers_19 rfl (lv_at hl 2 rfl) ?_
      refine lv_iconst (v := 0) hx hb d_S_areCertificateNumbers_20 (by decide) ?_
      refine lv_bipush (v := 99) hx hb d_S_areCertificateNumbers_21 (by decide) ?_
      refine z_Si0 (As := [.int p3, .int 0, .int 99]) (v := (f_isWithin p3 0 99)) ⟨hx, hb, hml, hown, hts⟩ (c_S_isWithin l G ws _ p3 0 99) (cwS 3 hts gS_S_69 rfl rfl rfl (by decide +kernel) ⟨Nat.le_of_ble_eq_true rfl, Nat.le_of_ble_eq_true rfl⟩) h0 hw rfl hl.1 rfl (Nat.le_of_ble_eq_true rfl) d_S_areCertificateNumbers_23 ⟨Nat.le_of_ble_eq_true rfl, Nat.le_of_ble_eq_true rfl⟩ (fun H locs hw => ?_)
      refine lv_if_eq (tgt := 65) hx hb d_S_areCertificateNumbers_26 (by decide) (fun c_26 => ?_) (fun c_26 => ?_)
      · refine lv_iconst (v := 0) hx hb d_S_areCertificateNumbers_65 (by decide) ?_
        exact z_iret (wf := fun _ : Unit => ws) (u := ()) hx hb hr hlocks h0 hw rfl (by rw [f_areCertificateNumbers, if_neg c_6, if_neg c_16, if_pos c_26]) (Nat.le_of_ble_eq_true rfl) (Nat.le_of_ble_eq_true rfl) d_S_areCertificateNumbers_66
      · refine lv_iload_n hx hb d_S_areCertificateNumbers_29 rfl (lv_at hl 3 rfl) ?_
        refine lv_iconst (v := 0) hx hb d_S_areCertificateNumbers_30 (by decide) ?_
        refine lv_ldc hx hb hown (hg (.constant R_S 130 65535) (by decide +kernel)) d_S_areCertificateNumbers_31 ?_
        refine z_Si0 (As := [.int p4, .int 0, .int 65535]) (v := (f_isWithin p4 0 65535)) ⟨hx, hb, hml, hown, hts⟩ (c_S_isWithin l G ws _ p4 0 65535) (cwS 3 hts gS_S_69 rfl rfl rfl (by decide +kernel) ⟨Nat.le_of_ble_eq_true rfl, Nat.le_of_ble_eq_true rfl⟩) h0 hw rfl hl.1 rfl (Nat.le_of_ble_eq_true rfl) d_S_areCertificateNumbers_33 ⟨Nat.le_of_ble_eq_true rfl, Nat.le_of_ble_eq_true rfl⟩ (fun H locs hw => ?_)
        refine lv_if_eq (tgt := 65) hx hb d_S_areCertificateNumbers_36 (by decide) (fun c_36 => ?_) (fun c_36 => ?_)
        · refine lv_iconst (v := 0) hx hb d_S_areCertificateNumbers_65 (by decide) ?_
          exact z_iret (wf := fun _ : Unit => ws) (u := ()) hx hb hr hlocks h0 hw rfl (by rw [f_areCertificateNumbers, if_neg c_6, if_neg c_16, if_neg c_26, if_pos c_36]) (Nat.le_of_ble_eq_true rfl) (Nat.le_of_ble_eq_true rfl) d_S_areCertificateNumbers_66
        · refine lv_iload hx hb d_S_areCertificateNumbers_39 (lv_at hl 4 rfl) ?_
          refine lv_iconst (v := 0) hx hb d_S_areCertificateNumbers_41 (by decide) ?_
          refine lv_ldc hx hb hown (hg (.constant R_S 183 100000) (by decide +kernel)) d_S_areCertificateNumbers_42 ?_
          refine z_Si0 (As := [.int p5, .int 0, .int 100000]) (v := (f_isWithin p5 0 100000)) ⟨hx, hb, hml, hown, hts⟩ (c_S_isWithin l G ws _ p5 0 100000) (cwS 3 hts gS_S_69 rfl rfl rfl (by decide +kernel) ⟨Nat.le_of_ble_eq_true rfl, Nat.le_of_ble_eq_true rfl⟩) h0 hw rfl hl.1 rfl (Nat.le_of_ble_eq_true rfl) d_S_areCertificateNumbers_44 ⟨Nat.le_of_ble_eq_true rfl, Nat.le_of_ble_eq_true rfl⟩ (fun H locs hw => ?_)
          refine lv_if_eq (tgt := 65) hx hb d_S_areCertificateNumbers_47 (by decide) (fun c_47 => ?_) (fun c_47 => ?_)
          · refine lv_iconst (v := 0) hx hb d_S_areCertificateNumbers_65 (by decide) ?_
            exact z_iret (wf := fun _ : Unit => ws) (u := ()) hx hb hr hlocks h0 hw rfl (by rw [f_areCertificateNumbers, if_neg c_6, if_neg c_16, if_neg c_26, if_neg c_36, if_pos c_47]) (Nat.le_of_ble_eq_true rfl) (Nat.le_of_ble_eq_true rfl) d_S_areCertificateNumbers_66
          · refine lv_iload hx hb d_S_areCertificateNumbers_50 (lv_at hl 5 rfl) ?_
            refine lv_iconst (v := 0) hx hb d_S_areCertificateNumbers_52 (by decide) ?_
            refine lv_ldc hx hb hown (hg (.constant R_S 183 100000) (by decide +kernel)) d_S_areCertificateNumbers_53 ?_
            refine z_Si0 (As := [.int p6, .int 0, .int 100000]) (v := (f_isWithin p6 0 100000)) ⟨hx, hb, hml, hown, hts⟩ (c_S_isWithin l G ws _ p6 0 100000) (cwS 3 hts gS_S_69 rfl rfl rfl (by decide +kernel) ⟨Nat.le_of_ble_eq_true rfl, Nat.le_of_ble_eq_true rfl⟩) h0 hw rfl hl.1 rfl (Nat.le_of_ble_eq_true rfl) d_S_areCertificateNumbers_55 ⟨Nat.le_of_ble_eq_true rfl, Nat.le_of_ble_eq_true rfl⟩ (fun H locs hw => ?_)
            refine lv_if_eq (tgt := 65) hx hb d_S_areCertificateNumbers_58 (by decide) (fun c_58 => ?_) (fun c_58 => ?_)
            · refine lv_iconst (v := 0) hx hb d_S_areCertificateNumbers_65 (by decide) ?_
              exact z_iret (wf := fun _ : Unit => ws) (u := ()) hx hb hr hlocks h0 hw rfl (by rw [f_areCertificateNumbers, if_neg c_6, if_neg c_16, if_neg c_26, if_neg c_36, if_neg c_47, if_pos c_58]) (Nat.le_of_ble_eq_true rfl) (Nat.le_of_ble_eq_true rfl) d_S_areCertificateNumbers_66
            · refine lv_iconst (v := 1) hx hb d_S_areCertificateNumbers_61 (by decide) ?_
              refine lv_goto (tgt := 66) hx hb d_S_areCertificateNumbers_62 (by decide) ?_
              exact z_iret (wf := fun _ : Unit => ws) (u := ()) hx hb hr hlocks h0 hw rfl (by rw [f_areCertificateNumbers, if_neg c_6, if_neg c_16, if_neg c_26, if_neg c_36, if_neg c_47, if_neg c_58]) (Nat.le_of_ble_eq_true rfl) (Nat.le_of_ble_eq_true rfl) d_S_areCertificateNumbers_66
set_option maxHeartbeats 4000000 in
set_option maxRecDepth 100000 in
theorem c_S_requireToken (l : Launch) (hl9 : l.stackTraces = false) (G : gG) (ws : va_W) (sz : Nat) (p1 : Int32)  : vx_Met l y_S_requireToken w_S_requireToken { frames := 6, cells := 1, slots := 6, locals := 81 } (va_Pc [.int p1] (z_pre G ws sz)) (z_Qn G ws sz (f_requireToken p1 = none)) (z_X G ws sz (fun E => f_requireToken p1 = some E)) 1 6 (va_A ws sz) := by
  refine vx_ofW (cc := b_S_requireToken) (maxL := 1) (ret := none) (by decide) rfl ?_
  intro p e s m args below meth c s₁ B hml hex hv
  obtain ⟨rfl, hsz, hP, hK, hD0, ham⟩ := hv
  subst hsz
  have hx := B.exec
  have hb := B.bytes
  have hr := B.returns
  have hts : ∀ w ∈ goT, w.before _ s = true := fun w h => atoms_spec (ws := w_S_requireToken) B.pre w (List.mem_cons_of_mem _ h)
  have hg : ∀ w, goB w = true → w.before _ s = true := fun w h => hts w (goI h)
  have hown : s.vm.findClass R_S = some m.cls := findClass_of_methodNamed B.named
  have hlocks := B.notSynchronized
  have h0 : z_st G ws s := ⟨hK, ham⟩
  have hw : z_wl G ws s ws s.heap [] := z_0 hP hD0
  have hl := lv_entry ([.int p1]) (n := 1) (Nat.le_of_ble_eq_true rfl)
  rw [lg_entry_eq]
  generalize (lg_sl ([.int p1]) ++ List.replicate (1 - (lg_sl ([.int p1])).length) Slot.unset).toArray = ls at hl ⊢
  have hl : lv_has ls 1 [(0, .int p1)] := hl
  refine lv_iload_n hx hb d_S_requireToken_0 rfl (lv_at hl 0 rfl) ?_
  refine lv_iconst (v := 0) hx hb d_S_requireToken_1 (by decide) ?_
  refine lv_iconst (v := 5) hx hb d_S_requireToken_2 (by decide) ?_
  refine z_Si0 (As := [.int p1, .int 0, .int 5]) (v := (f_isWithin p1 0 5)) ⟨hx, hb, hml, hown, hts⟩ (c_S_isWithin l G ws _ p1 0 5) (cwS 3 hts gS_S_69 rfl rfl rfl (by decide +kernel) ⟨Nat.le_of_ble_eq_true rfl, Nat.le_of_ble_eq_true rfl⟩) h0 hw rfl hl.1 rfl (Nat.le_of_ble_eq_true rfl) d_S_requireToken_3 ⟨Nat.le_of_ble_eq_true rfl, Nat.le_of_ble_eq_true rfl⟩ (fun H locs hw => ?_)
  refine lv_if_ne (tgt := 17) hx hb d_S_requireToken_6 (by decide) (fun c_6 => ?_) (fun c_6 => ?_)
  · exact vx_ret (z_vret (wf := fun _ : Unit => ws) (u := ()) hx hb hr hlocks h0 hw (by rw [f_requireToken, if_neg c_6]) (Nat.le_of_ble_eq_true rfl) (Nat.le_of_ble_eq_true rfl) d_S_requireToken_17)
  · exact z_throw0 (cls := "java/util/NoSuchElementException") (ic := 192) hx hb hl9 hown (hg (.classLink R_S 190 "java/util/NoSuchElementException") (by decide +kernel)) (hg (.initialized "java/util/NoSuchElementException") (by decide +kernel)) (hat_S192 hts h0.2.1) (by decide +kernel) h0 hw (hl.1.trans hml.symm) d_S_requireToken_9 d_S_requireToken_12 d_S_requireToken_13 d_S_requireToken_16 hex (Nat.le_of_ble_eq_true rfl) (Nat.le_of_ble_eq_true rfl) (Nat.le_of_ble_eq_true rfl) (Nat.le_of_ble_eq_true rfl) hlocks (by rw [f_requireToken, if_pos c_6]) (Nat.le_of_ble_eq_true rfl) (Nat.le_of_ble_eq_true rfl)
set_option maxHeartbeats 4000000 in
set_option maxRecDepth 100000 in
theorem c_S_requireEmpty (l : Launch) (hl9 : l.stackTraces = false) (G : gG) (ws : va_W) (sz : Nat) (p1 : Int32)  : vx_Met l y_S_requireEmpty w_S_requireEmpty { frames := 6, cells := 1, slots := 6, locals := 81 } (va_Pc [.int p1] (z_pre G ws sz)) (z_Qn G ws sz (f_requireEmpty p1 = none)) (z_X G ws sz (fun E => f_requireEmpty p1 = some E)) 1 6 (va_A ws sz) := by
  refine vx_ofW (cc := b_S_requireEmpty) (maxL := 1) (ret := none) (by decide) rfl ?_
  intro p e s m args below meth c s₁ B hml hex hv
  obtain ⟨rfl, hsz, hP, hK, hD0, ham⟩ := hv
  subst hsz
  have hx := B.exec
  have hb := B.bytes
  have hr := B.returns
  have hts : ∀ w ∈ goT, w.before _ s = true := fun w h => atoms_spec (ws := w_S_requireEmpty) B.pre w (List.mem_cons_of_mem _ h)
  have hg : ∀ w, goB w = true → w.before _ s = true := fun w h => hts w (goI h)
  have hown : s.vm.findClass R_S = some m.cls := findClass_of_methodNamed B.named
  have hlocks := B.notSynchronized
  have h0 : z_st G ws s := ⟨hK, ham⟩
  have hw : z_wl G ws s ws s.heap [] := z_0 hP hD0
  have hl := lv_entry ([.int p1]) (n := 1) (Nat.le_of_ble_eq_true rfl)
  rw [lg_entry_eq]
  generalize (lg_sl ([.int p1]) ++ List.replicate (1 - (lg_sl ([.int p1])).length) Slot.unset).toArray = ls at hl ⊢
  have hl : lv_has ls 1 [(0, .int p1)] := hl
  refine lv_iload_n hx hb d_S_requireEmpty_0 rfl (lv_at hl 0 rfl) ?_
  refine lv_iconst (v := (-1)) hx hb d_S_requireEmpty_1 (by decide) ?_
  refine lv_icmp_eq (tgt := 13) hx hb d_S_requireEmpty_2 (by decide) (fun c_2 => ?_) (fun c_2 => ?_)
  · exact vx_ret (z_vret (wf := fun _ : Unit => ws) (u := ()) hx hb hr hlocks h0 hw (by rw [f_requireEmpty, if_pos c_2]) (Nat.le_of_ble_eq_true rfl) (Nat.le_of_ble_eq_true rfl) d_S_requireEmpty_13)
  · exact z_throw0 (cls := "java/lang/IllegalStateException") (ic := 93) hx hb hl9 hown (hg (.classLink R_S 91 "java/lang/IllegalStateException") (by decide +kernel)) (hg (.initialized "java/lang/IllegalStateException") (by decide +kernel)) (hat_S93 hts h0.2.1) (by decide +kernel) h0 hw (hl.1.trans hml.symm) d_S_requireEmpty_5 d_S_requireEmpty_8 d_S_requireEmpty_9 d_S_requireEmpty_12 hex (Nat.le_of_ble_eq_true rfl) (Nat.le_of_ble_eq_true rfl) (Nat.le_of_ble_eq_true rfl) (Nat.le_of_ble_eq_true rfl) hlocks (by rw [f_requireEmpty, if_neg c_2]) (Nat.le_of_ble_eq_true rfl) (Nat.le_of_ble_eq_true rfl)
set_option maxHeartbeats 4000000 in
set_option maxRecDepth 100000 in
theorem c_S_requireFilled (l : Launch) (hl9 : l.stackTraces = false) (G : gG) (ws : va_W) (sz : Nat) (p1 : Int32)  : vx_Met l y_S_requireFilled w_S_requireFilled { frames := 6, cells := 1, slots := 6, locals := 81 } (va_Pc [.int p1] (z_pre G ws sz)) (z_Qn G ws sz (f_requireFilled p1 = none)) (z_X G ws sz (fun E => f_requireFilled p1 = some E)) 1 6 (va_A ws sz) := by
  refine vx_ofW (cc := b_S_requireFilled) (maxL := 1) (ret := none) (by decide) rfl ?_
  intro p e s m args below meth c s₁ B hml hex hv
  obtain ⟨rfl, hsz, hP, hK, hD0, ham⟩ := hv
  subst hsz
  have hx := B.exec
  have hb := B.bytes
  have hr := B.returns
  have hts : ∀ w ∈ goT, w.before _ s = true := fun w h => atoms_spec (ws := w_S_requireFilled) B.pre w (List.mem_cons_of_mem _ h)
  have hg : ∀ w, goB w = true → w.before _ s = true := fun w h => hts w (goI h)
  have hown : s.vm.findClass R_S = some m.cls := findClass_of_methodNamed B.named
  have hlocks := B.notSynchronized
  have h0 : z_st G ws s := ⟨hK, ham⟩
  have hw : z_wl G ws s ws s.heap [] := z_0 hP hD0
  have hl := lv_entry ([.int p1]) (n := 1) (Nat.le_of_ble_eq_true rfl)
  rw [lg_entry_eq]
  generalize (lg_sl ([.int p1]) ++ List.replicate (1 - (lg_sl ([.int p1])).length) Slot.unset).toArray = ls at hl ⊢
  have hl : lv_has ls 1 [(0, .int p1)] := hl
  refine lv_iload_n hx hb d_S_requireFilled_0 rfl (lv_at hl 0 rfl) ?_
  refine lv_iconst (v := (-1)) hx hb d_S_requireFilled_1 (by decide) ?_
  refine lv_icmp_ne (tgt := 13) hx hb d_S_requireFilled_2 (by decide) (fun c_2 => ?_) (fun c_2 => ?_)
  · exact vx_ret (z_vret (wf := fun _ : Unit => ws) (u := ()) hx hb hr hlocks h0 hw (by rw [f_requireFilled, if_neg c_2]) (Nat.le_of_ble_eq_true rfl) (Nat.le_of_ble_eq_true rfl) d_S_requireFilled_13)
  · exact z_throw0 (cls := "java/lang/IllegalStateException") (ic := 93) hx hb hl9 hown (hg (.classLink R_S 91 "java/lang/IllegalStateException") (by decide +kernel)) (hg (.initialized "java/lang/IllegalStateException") (by decide +kernel)) (hat_S93 hts h0.2.1) (by decide +kernel) h0 hw (hl.1.trans hml.symm) d_S_requireFilled_5 d_S_requireFilled_8 d_S_requireFilled_9 d_S_requireFilled_12 hex (Nat.le_of_ble_eq_true rfl) (Nat.le_of_ble_eq_true rfl) (Nat.le_of_ble_eq_true rfl) (Nat.le_of_ble_eq_true rfl) hlocks (by rw [f_requireFilled, if_pos c_2]) (Nat.le_of_ble_eq_true rfl) (Nat.le_of_ble_eq_true rfl)
set_option maxHeartbeats 4000000 in
set_option maxRecDepth 100000 in
theorem c_S_requireInNoReader (l : Launch) (hl9 : l.stackTraces = false) (G : gG) (ad : Nat → Nat) (st : CS) (wr : va_W) (sz : Nat) (p1 : Int32)  : vx_Met l y_S_requireInNoReader w_S_requireInNoReader { frames := 6, cells := 1, slots := 6, locals := 81 } (va_Pc [.ref (ad 0), .int p1] (z_pre G (wC ad G st ++ wr) sz)) (z_Qn G (wC ad G st ++ wr) sz (f_requireInNoReader st p1 = none)) (z_X G (wC ad G st ++ wr) sz (fun E => f_requireInNoReader st p1 = some E)) 1 6 (va_A (wC ad G st ++ wr) sz) := by
  refine vx_ofW (cc := b_S_requireInNoReader) (maxL := 2) (ret := none) (by decide) rfl ?_
  intro p e s m args below meth c s₁ B hml hex hv
  obtain ⟨rfl, hsz, hP, hK, hD0, ham⟩ := hv
  subst hsz
  have hx := B.exec
  have hb := B.bytes
  have hr := B.returns
  have hts : ∀ w ∈ goT, w.before _ s = true := fun w h => atoms_spec (ws := w_S_requireInNoReader) B.pre w (List.mem_cons_of_mem _ h)
  have hg : ∀ w, goB w = true → w.before _ s = true := fun w h => hts w (goI h)
  have hown : s.vm.findClass R_S = some m.cls := findClass_of_methodNamed B.named
  have hlocks := B.notSynchronized
  have h0 : z_st G (wC ad G st ++ wr) s := ⟨hK, ham⟩
  have hw : z_wl G (wC ad G st ++ wr) s (wC ad G st ++ wr) s.heap [] := z_0 hP hD0
  have hl := lv_entry ([.ref (ad 0), .int p1]) (n := 2) (Nat.le_of_ble_eq_true rfl)
  rw [lg_entry_eq]
  generalize (lg_sl ([.ref (ad 0), .int p1]) ++ List.replicate (2 - (lg_sl ([.ref (ad 0), .int p1])).length) Slot.unset).toArray = ls at hl ⊢
  have hl : lv_has ls 2 [(0, .ref (ad 0)), (1, .int p1)] := hl
  refine lv_iload_n hx hb d_S_requireInNoReader_0 rfl (lv_at hl 1 rfl) ?_
  refine lv_aload_n hx hb d_S_requireInNoReader_1 rfl (lv_at hl 0 rfl) ?_
  refine va_get (D := G.1) (ci := 2) (v := .int (st.1 8)) (C := R_S) (T := T_S) (N := 14) hx hb hts in_S hown h0.1 hw.1 0 rfl rfl 8 (by decide) (hg (.fieldLink R_S 41 "SecureEntry" "outerToken" "I") (by decide +kernel)) (fun _ h9 => h9) rfl d_S_requireInNoReader_2 ?_
  refine lv_icmp_eq (tgt := 16) hx hb d_S_requireInNoReader_5 (by decide) (fun c_5 => ?_) (fun c_5 => ?_)
  · exact z_throw0 (cls := "java/lang/IllegalStateException") (ic := 93) hx hb hl9 hown (hg (.classLink R_S 91 "java/lang/IllegalStateException") (by decide +kernel)) (hg (.initialized "java/lang/IllegalStateException") (by decide +kernel)) (hat_S93 hts h0.2.1) (by decide +kernel) h0 hw (hl.1.trans hml.symm) d_S_requireInNoReader_16 d_S_requireInNoReader_19 d_S_requireInNoReader_20 d_S_requireInNoReader_23 hex (Nat.le_of_ble_eq_true rfl) (Nat.le_of_ble_eq_true rfl) (Nat.le_of_ble_eq_true rfl) (Nat.le_of_ble_eq_true rfl) hlocks (by rw [f_requireInNoReader, if_pos c_5]) (Nat.le_of_ble_eq_true rfl) (Nat.le_of_ble_eq_true rfl)
  · refine lv_iload_n hx hb d_S_requireInNoReader_8 rfl (lv_at hl 1 rfl) ?_
    refine lv_aload_n hx hb d_S_requireInNoReader_9 rfl (lv_at hl 0 rfl) ?_
    refine va_get (D := G.1) (ci := 2) (v := .int (st.1 9)) (C := R_S) (T := T_S) (N := 14) hx hb hts in_S hown h0.1 hw.1 0 rfl rfl 9 (by decide) (hg (.fieldLink R_S 44 "SecureEntry" "innerToken" "I") (by decide +kernel)) (fun _ h9 => h9) rfl d_S_requireInNoReader_10 ?_
    refine lv_icmp_ne (tgt := 24) hx hb d_S_requireInNoReader_13 (by decide) (fun c_13 => ?_) (fun c_13 => ?_)
    · exact vx_ret (z_vret (wf := fun _ : Unit => (wC ad G st ++ wr)) (u := ()) hx hb hr hlocks h0 hw (by rw [f_requireInNoReader, if_neg c_5, if_neg c_13]) (Nat.le_of_ble_eq_true rfl) (Nat.le_of_ble_eq_true rfl) d_S_requireInNoReader_24)
    · exact z_throw0 (cls := "java/lang/IllegalStateException") (ic := 93) hx hb hl9 hown (hg (.classLink R_S 91 "java/lang/IllegalStateException") (by decide +kernel)) (hg (.initialized "java/lang/IllegalStateException") (by decide +kernel)) (hat_S93 hts h0.2.1) (by decide +kernel) h0 hw (hl.1.trans hml.symm) d_S_requireInNoReader_16 d_S_requireInNoReader_19 d_S_requireInNoReader_20 d_S_requireInNoReader_23 hex (Nat.le_of_ble_eq_true rfl) (Nat.le_of_ble_eq_true rfl) (Nat.le_of_ble_eq_true rfl) (Nat.le_of_ble_eq_true rfl) hlocks (by rw [f_requireInNoReader, if_neg c_5, if_pos c_13]) (Nat.le_of_ble_eq_true rfl) (Nat.le_of_ble_eq_true rfl)
set_option maxHeartbeats 4000000 in
set_option maxRecDepth 100000 in
theorem c_S_requireUp (l : Launch) (hl9 : l.stackTraces = false) (G : gG) (ad : Nat → Nat) (st : CS) (wr : va_W) (sz : Nat)   : vx_Met l y_S_requireUp w_S_requireUp { frames := 6, cells := 1, slots := 6, locals := 81 } (va_Pc [.ref (ad 0)] (z_pre G (wC ad G st ++ wr) sz)) (z_Qn G (wC ad G st ++ wr) sz (f_requireUp st = none)) (z_X G (wC ad G st ++ wr) sz (fun E => f_requireUp st = some E)) 1 6 (va_A (wC ad G st ++ wr) sz) := by
  refine vx_ofW (cc := b_S_requireUp) (maxL := 1) (ret := none) (by decide) rfl ?_
  intro p e s m args below meth c s₁ B hml hex hv
  obtain ⟨rfl, hsz, hP, hK, hD0, ham⟩ := hv
  subst hsz
  have hx := B.exec
  have hb := B.bytes
  have hr := B.returns
  have hts : ∀ w ∈ goT, w.before _ s = true := fun w h => atoms_spec (ws := w_S_requireUp) B.pre w (List.mem_cons_of_mem _ h)
  have hg : ∀ w, goB w = true → w.before _ s = true := fun w h => hts w (goI h)
  have hown : s.vm.findClass R_S = some m.cls := findClass_of_methodNamed B.named
  have hlocks := B.notSynchronized
  have h0 : z_st G (wC ad G st ++ wr) s := ⟨hK, ham⟩
  have hw : z_wl G (wC ad G st ++ wr) s (wC ad G st ++ wr) s.heap [] := z_0 hP hD0
  have hl := lv_entry ([.ref (ad 0)]) (n := 1) (Nat.le_of_ble_eq_true rfl)
  rw [lg_entry_eq]
  generalize (lg_sl ([.ref (ad 0)]) ++ List.replicate (1 - (lg_sl ([.ref (ad 0)])).length) Slot.unset).toArray = ls at hl ⊢
  have hl : lv_has ls 1 [(0, .ref (ad 0))] := hl
  refine lv_aload_n hx hb d_S_requireUp_0 rfl (lv_at hl 0 rfl) ?_
  refine va_get (D := G.1) (ci := 2) (v := .int (st.1 5)) (C := R_S) (T := T_S) (N := 14) hx hb hts in_S hown h0.1 hw.1 0 rfl rfl 5 (by decide) (hg (.fieldLink R_S 87 "SecureEntry" "up" "Z") (by decide +kernel)) (fun _ h9 => h9) rfl d_S_requireUp_1 ?_
  refine lv_if_ne (tgt := 15) hx hb d_S_requireUp_4 (by decide) (fun c_4 => ?_) (fun c_4 => ?_)
  · exact vx_ret (z_vret (wf := fun _ : Unit => (wC ad G st ++ wr)) (u := ()) hx hb hr hlocks h0 hw (by rw [f_requireUp, if_neg c_4]) (Nat.le_of_ble_eq_true rfl) (Nat.le_of_ble_eq_true rfl) d_S_requireUp_15)
  · exact z_throw0 (cls := "java/lang/IllegalStateException") (ic := 93) hx hb hl9 hown (hg (.classLink R_S 91 "java/lang/IllegalStateException") (by decide +kernel)) (hg (.initialized "java/lang/IllegalStateException") (by decide +kernel)) (hat_S93 hts h0.2.1) (by decide +kernel) h0 hw (hl.1.trans hml.symm) d_S_requireUp_7 d_S_requireUp_10 d_S_requireUp_11 d_S_requireUp_14 hex (Nat.le_of_ble_eq_true rfl) (Nat.le_of_ble_eq_true rfl) (Nat.le_of_ble_eq_true rfl) (Nat.le_of_ble_eq_true rfl) hlocks (by rw [f_requireUp, if_pos c_4]) (Nat.le_of_ble_eq_true rfl) (Nat.le_of_ble_eq_true rfl)
set_option maxHeartbeats 4000000 in
set_option maxRecDepth 100000 in
theorem c_S_requireAdministrator (l : Launch) (hl9 : l.stackTraces = false) (G : gG) (ad : Nat → Nat) (st : CS) (wr : va_W) (sz : Nat)   : vx_Met l y_S_requireAdministrator w_S_requireAdministrator { frames := 6, cells := 1, slots := 6, locals := 81 } (va_Pc [.ref (ad 0)] (z_pre G (wC ad G st ++ wr) sz)) (z_Qn G (wC ad G st ++ wr) sz (f_requireAdministrator st = none)) (z_X G (wC ad G st ++ wr) sz (fun E => f_requireAdministrator st = some E)) 1 6 (va_A (wC ad G st ++ wr) sz) := by
  refine vx_ofW (cc := b_S_requireAdministrator) (maxL := 1) (ret := none) (by decide) rfl ?_
  intro p e s m args below meth c s₁ B hml hex hv
  obtain ⟨rfl, hsz, hP, hK, hD0, ham⟩ := hv
  subst hsz
  have hx := B.exec
  have hb := B.bytes
  have hr := B.returns
  have hts : ∀ w ∈ goT, w.before _ s = true := fun w h => atoms_spec (ws := w_S_requireAdministrator) B.pre w (List.mem_cons_of_mem _ h)
  have hg : ∀ w, goB w = true → w.before _ s = true := fun w h => hts w (goI h)
  have hown : s.vm.findClass R_S = some m.cls := findClass_of_methodNamed B.named
  have hlocks := B.notSynchronized
  have h0 : z_st G (wC ad G st ++ wr) s := ⟨hK, ham⟩
  have hw : z_wl G (wC ad G st ++ wr) s (wC ad G st ++ wr) s.heap [] := z_0 hP hD0
  have hl := lv_entry ([.ref (ad 0)]) (n := 1) (Nat.le_of_ble_eq_true rfl)
  rw [lg_entry_eq]
  generalize (lg_sl ([.ref (ad 0)]) ++ List.replicate (1 - (lg_sl ([.ref (ad 0)])).length) Slot.unset).toArray = ls at hl ⊢
  have hl : lv_has ls 1 [(0, .ref (ad 0))] := hl
  refine lv_aload_n hx hb d_S_requireAdministrator_0 rfl (lv_at hl 0 rfl) ?_
  refine va_get (D := G.1) (ci := 2) (v := .int (st.1 10)) (C := R_S) (T := T_S) (N := 14) hx hb hts in_S hown h0.1 hw.1 0 rfl rfl 10 (by decide) (hg (.fieldLink R_S 47 "SecureEntry" "administratorRole" "I") (by decide +kernel)) (fun _ h9 => h9) rfl d_S_requireAdministrator_1 ?_
  refine lv_if_ne (tgt := 15) hx hb d_S_requireAdministrator_4 (by decide) (fun c_4 => ?_) (fun c_4 => ?_)
  · exact vx_ret (z_vret (wf := fun _ : Unit => (wC ad G st ++ wr)) (u := ()) hx hb hr hlocks h0 hw (by rw [f_requireAdministrator, if_neg c_4]) (Nat.le_of_ble_eq_true rfl) (Nat.le_of_ble_eq_true rfl) d_S_requireAdministrator_15)
  · exact z_throw0 (cls := "java/lang/IllegalStateException") (ic := 93) hx hb hl9 hown (hg (.classLink R_S 91 "java/lang/IllegalStateException") (by decide +kernel)) (hg (.initialized "java/lang/IllegalStateException") (by decide +kernel)) (hat_S93 hts h0.2.1) (by decide +kernel) h0 hw (hl.1.trans hml.symm) d_S_requireAdministrator_7 d_S_requireAdministrator_10 d_S_requireAdministrator_11 d_S_requireAdministrator_14 hex (Nat.le_of_ble_eq_true rfl) (Nat.le_of_ble_eq_true rfl) (Nat.le_of_ble_eq_true rfl) (Nat.le_of_ble_eq_true rfl) hlocks (by rw [f_requireAdministrator, if_pos c_4]) (Nat.le_of_ble_eq_true rfl) (Nat.le_of_ble_eq_true rfl)
set_option maxHeartbeats 4000000 in
set_option maxRecDepth 100000 in
theorem c_S_requireRole (l : Launch) (hl9 : l.stackTraces = false) (G : gG) (ad : Nat → Nat) (st : CS) (wr : va_W) (sz : Nat) (p1 : Int32)  : vx_Met l y_S_requireRole w_S_requireRole { frames := 6, cells := 1, slots := 6, locals := 81 } (va_Pc [.ref (ad 0), .int p1] (z_pre G (wC ad G st ++ wr) sz)) (z_Qn G (wC ad G st ++ wr) sz (f_requireRole st p1 = none)) (z_X G (wC ad G st ++ wr) sz (fun E => f_requireRole st p1 = some E)) 1 6 (va_A (wC ad G st ++ wr) sz) := by
  refine vx_ofW (cc := b_S_requireRole) (maxL := 2) (ret := none) (by decide) rfl ?_
  intro p e s m args below meth c s₁ B hml hex hv
  obtain ⟨rfl, hsz, hP, hK, hD0, ham⟩ := hv
  subst hsz
  have hx := B.exec
  have hb := B.bytes
  have hr := B.returns
  have hts : ∀ w ∈ goT, w.before _ s = true := fun w h => atoms_spec (ws := w_S_requireRole) B.pre w (List.mem_cons_of_mem _ h)
  have hg : ∀ w, goB w = true → w.before _ s = true := fun w h => hts w (goI h)
  have hown : s.vm.findClass R_S = some m.cls := findClass_of_methodNamed B.named
  have hlocks := B.notSynchronized
  have h0 : z_st G (wC ad G st ++ wr) s := ⟨hK, ham⟩
  have hw : z_wl G (wC ad G st ++ wr) s (wC ad G st ++ wr) s.heap [] := z_0 hP hD0
  have hl := lv_entry ([.ref (ad 0), .int p1]) (n := 2) (Nat.le_of_ble_eq_true rfl)
  rw [lg_entry_eq]
  generalize (lg_sl ([.ref (ad 0), .int p1]) ++ List.replicate (2 - (lg_sl ([.ref (ad 0), .int p1])).length) Slot.unset).toArray = ls at hl ⊢
  have hl : lv_has ls 2 [(0, .ref (ad 0)), (1, .int p1)] := hl
  refine lv_aload_n hx hb d_S_requireRole_0 rfl (lv_at hl 0 rfl) ?_
  refine va_get (D := G.1) (ci := 2) (v := .int (st.1 10)) (C := R_S) (T := T_S) (N := 14) hx hb hts in_S hown h0.1 hw.1 0 rfl rfl 10 (by decide) (hg (.fieldLink R_S 47 "SecureEntry" "administratorRole" "I") (by decide +kernel)) (fun _ h9 => h9) rfl d_S_requireRole_1 ?_
  refine lv_iload_n hx hb d_S_requireRole_4 rfl (lv_at hl 1 rfl) ?_
  refine lv_icmp_eq (tgt := 16) hx hb d_S_requireRole_5 (by decide) (fun c_5 => ?_) (fun c_5 => ?_)
  · exact vx_ret (z_vret (wf := fun _ : Unit => (wC ad G st ++ wr)) (u := ()) hx hb hr hlocks h0 hw (by rw [f_requireRole, if_pos c_5]) (Nat.le_of_ble_eq_true rfl) (Nat.le_of_ble_eq_true rfl) d_S_requireRole_16)
  · exact z_throw0 (cls := "java/lang/UnsupportedOperationException") (ic := 233) hx hb hl9 hown (hg (.classLink R_S 231 "java/lang/UnsupportedOperationException") (by decide +kernel)) (hg (.initialized "java/lang/UnsupportedOperationException") (by decide +kernel)) (hat_S233 hts h0.2.1) (by decide +kernel) h0 hw (hl.1.trans hml.symm) d_S_requireRole_8 d_S_requireRole_11 d_S_requireRole_12 d_S_requireRole_15 hex (Nat.le_of_ble_eq_true rfl) (Nat.le_of_ble_eq_true rfl) (Nat.le_of_ble_eq_true rfl) (Nat.le_of_ble_eq_true rfl) hlocks (by rw [f_requireRole, if_neg c_5]) (Nat.le_of_ble_eq_true rfl) (Nat.le_of_ble_eq_true rfl)
end CON
end
section
section CON
set_option maxHeartbeats 4000000 in
set_option maxRecDepth 100000 in
theorem c_S_isEnrolled (l : Launch) (G : gG) (ad : Nat → Nat) (st : CS) (wr : va_W) (sz : Nat) (p1 : Int32) (hp1 : vp_in p1 7) : Met l y_S_isEnrolled w_S_isEnrolled { frames := 0, cells := 0, slots := 0, locals := 0 } (va_Pc [.ref (ad 0), .int p1] (z_pre G (wC ad G st ++ wr) sz)) (z_Qi0 G (wC ad G st ++ wr) sz (wC ad G st ++ wr) (f_isEnrolled st p1)) 0 0 (va_A (wC ad G st ++ wr) sz) := by
  refine Met.ofW (cc := b_S_isEnrolled) (maxL := 2) (ret := (some .boolean)) (by decide) rfl ?_
  intro p e s m args below meth c s₁ B hml hv
  obtain ⟨rfl, hsz, hP, hK, hD0, ham⟩ := hv
  subst hsz
  have hx := B.exec
  have hb := B.bytes
  have hr := B.returns
  have hts : ∀ w ∈ goT, w.before _ s = true := fun w h => atoms_spec (ws := w_S_isEnrolled) B.pre w (List.mem_cons_of_mem _ h)
  have hg : ∀ w, goB w = true → w.before _ s = true := fun w h => hts w (goI h)
  have hown : s.vm.findClass R_S = some m.cls := findClass_of_methodNamed B.named
  have hlocks := B.notSynchronized
  have h0 : z_st G (wC ad G st ++ wr) s := ⟨hK, ham⟩
  have hw : z_wl G (wC ad G st ++ wr) s (wC ad G st ++ wr) s.heap [] := z_0 hP hD0
  have hl := lv_entry ([.ref (ad 0), .int p1]) (n := 2) (Nat.le_of_ble_eq_true rfl)
  rw [lg_entry_eq]
  generalize (lg_sl ([.ref (ad 0), .int p1]) ++ List.replicate (2 - (lg_sl ([.ref (ad 0), .int p1])).length) Slot.unset).toArray = ls at hl ⊢
  have hl : lv_has ls 2 [(0, .ref (ad 0)), (1, .int p1)] := hl
  refine lv_aload_n hx hb d_S_isEnrolled_0 rfl (lv_at hl 0 rfl) ?_
  refine va_get (D := G.1) (ci := 2) (v := .ref (ad 2)) (C := R_S) (T := T_S) (N := 14) hx hb hts in_S hown h0.1 hw.1 0 rfl rfl 1 (by decide) (hg (.fieldLink R_S 21 "SecureEntry" "keys" "[I") (by decide +kernel)) (fun _ h9 => h9) rfl d_S_isEnrolled_1 ?_
  refine lv_iload_n hx hb d_S_isEnrolled_4 rfl (lv_at hl 1 rfl) ?_
  refine va_iald hx hb h0.1 hw.1 2 0 rfl rfl (show vp_in p1 7 by assumption) d_S_isEnrolled_5 ?_
  refine lv_if_eq (tgt := 13) hx hb d_S_isEnrolled_6 (by decide) (fun c_6 => ?_) (fun c_6 => ?_)
  · refine lv_iconst (v := 0) hx hb d_S_isEnrolled_13 (by decide) ?_
    exact z_iret (wf := fun _ : Unit => (wC ad G st ++ wr)) (u := ()) hx hb hr hlocks h0 hw rfl (by rw [f_isEnrolled, if_pos c_6]) (Nat.le_of_ble_eq_true rfl) (Nat.le_of_ble_eq_true rfl) d_S_isEnrolled_14
  · refine lv_iconst (v := 1) hx hb d_S_isEnrolled_9 (by decide) ?_
    refine lv_goto (tgt := 14) hx hb d_S_isEnrolled_10 (by decide) ?_
    exact z_iret (wf := fun _ : Unit => (wC ad G st ++ wr)) (u := ()) hx hb hr hlocks h0 hw rfl (by rw [f_isEnrolled, if_neg c_6]) (Nat.le_of_ble_eq_true rfl) (Nat.le_of_ble_eq_true rfl) d_S_isEnrolled_14
set_option maxHeartbeats 4000000 in
set_option maxRecDepth 100000 in
theorem c_S_rightSignature (l : Launch) (G : gG) (ad : Nat → Nat) (st : CS) (wr : va_W) (sz : Nat) (p1 : Int32) (p2 : Int32) (p3 : Int32) (p4 : Int32) (p5 : Int32) (p6 : Int32) (hp2 : vp_in p2 7) : Met l y_S_rightSignature w_S_rightSignature { frames := 0, cells := 0, slots := 0, locals := 0 } (va_Pc [.ref (ad 0), .int p1, .int p2, .int p3, .int p4, .int p5, .int p6] (z_pre G (wC ad G st ++ wr) sz)) (z_Qi0 G (wC ad G st ++ wr) sz (wC ad G st ++ wr) (f_rightSignature st p1 p2 p3 p4 p5 p6)) 0 0 (va_A (wC ad G st ++ wr) sz) := by
  refine Met.ofW (cc := b_S_rightSignature) (maxL := 8) (ret := (some .int)) (by decide) rfl ?_
  intro p e s m args below meth c s₁ B hml hv
  obtain ⟨rfl, hsz, hP, hK, hD0, ham⟩ := hv
  subst hsz
  have hx := B.exec
  have hb := B.bytes
  have hr := B.returns
  have hts : ∀ w ∈ goT, w.before _ s = true := fun w h => atoms_spec (ws := w_S_rightSignature) B.pre w (List.mem_cons_of_mem _ h)
  have hg : ∀ w, goB w = true → w.before _ s = true := fun w h => hts w (goI h)
  have hown : s.vm.findClass R_S = some m.cls := findClass_of_methodNamed B.named
  have hlocks := B.notSynchronized
  have h0 : z_st G (wC ad G st ++ wr) s := ⟨hK, ham⟩
  have hw : z_wl G (wC ad G st ++ wr) s (wC ad G st ++ wr) s.heap [] := z_0 hP hD0
  have hl := lv_entry ([.ref (ad 0), .int p1, .int p2, .int p3, .int p4, .int p5, .int p6]) (n := 8) (Nat.le_of_ble_eq_true rfl)
  rw [lg_entry_eq]
  generalize (lg_sl ([.ref (ad 0), .int p1, .int p2, .int p3, .int p4, .int p5, .int p6]) ++ List.replicate (8 - (lg_sl ([.ref (ad 0), .int p1, .int p2, .int p3, .int p4, .int p5, .int p6])).length) Slot.unset).toArray = ls at hl ⊢
  have hl : lv_has ls 8 [(0, .ref (ad 0)), (1, .int p1), (2, .int p2), (3, .int p3), (4, .int p4), (5, .int p5), (6, .int p6)] := hl
  refine lv_iload_n hx hb d_S_rightSignature_0 rfl (lv_at hl 1 rfl) ?_
  refine lv_bipush (v := 100) hx hb d_S_rightSignature_1 (by decide) ?_
  refine lv_imul hx hb d_S_rightSignature_3 ?_
  refine lv_iload_n hx hb d_S_rightSignature_4 rfl (lv_at hl 3 rfl) ?_
  refine lv_iadd hx hb d_S_rightSignature_5 ?_
  refine lv_ldc hx hb hown (hg (.constant R_S 234 65536) (by decide +kernel)) d_S_rightSignature_6 ?_
  refine lv_imul hx hb d_S_rightSignature_8 ?_
  refine lv_iload hx hb d_S_rightSignature_9 (lv_at hl 4 rfl) ?_
  refine lv_iadd hx hb d_S_rightSignature_11 ?_
  refine lv_sipush (v := 9973) hx hb d_S_rightSignature_12 (by decide) ?_
  refine lv_irem hx hb d_S_rightSignature_15 (by decide) ?_
  refine lv_iload hx hb d_S_rightSignature_16 (lv_at hl 5 rfl) ?_
  refine lv_bipush (v := 31) hx hb d_S_rightSignature_18 (by decide) ?_
  refine lv_imul hx hb d_S_rightSignature_20 ?_
  refine lv_iadd hx hb d_S_rightSignature_21 ?_
  refine lv_iload hx hb d_S_rightSignature_22 (lv_at hl 6 rfl) ?_
  refine lv_bipush (v := 37) hx hb d_S_rightSignature_24 (by decide) ?_
  refine lv_imul hx hb d_S_rightSignature_26 ?_
  refine lv_iadd hx hb d_S_rightSignature_27 ?_
  refine lv_iconst (v := 1) hx hb d_S_rightSignature_28 (by decide) ?_
  refine lv_iadd hx hb d_S_rightSignature_29 ?_
  refine lv_istore (lv' := [(7, .int ((((((((p1 * 100) + p3) * 65536) + p4) - ((((p1 * 100) + p3) * 65536) + p4) / 9973 * 9973) + (p5 * 31)) + (p6 * 37)) + 1)), (0, .ref (ad 0)), (1, .int p1), (2, .int p2), (3, .int p3), (4, .int p4), (5, .int p5), (6, .int p6)]) hx hb d_S_rightSignature_30 hl (by decide) rfl (fun ls hl => ?_)
  refine lv_iload hx hb d_S_rightSignature_32 (lv_at hl 0 rfl) ?_
  refine lv_i2l hx hb d_S_rightSignature_34 rfl ?_
  refine lv_aload_n hx hb d_S_rightSignature_35 rfl (lv_at hl 1 rfl) ?_
  refine va_get (D := G.1) (ci := 2) (v := .ref (ad 2)) (C := R_S) (T := T_S) (N := 14) hx hb hts in_S hown h0.1 hw.1 0 rfl rfl 1 (by decide) (hg (.fieldLink R_S 21 "SecureEntry" "keys" "[I") (by decide +kernel)) (fun _ h9 => h9) rfl d_S_rightSignature_36 ?_
  refine lv_iload_n hx hb d_S_rightSignature_39 rfl (lv_at hl 3 rfl) ?_
  refine va_iald hx hb h0.1 hw.1 2 0 rfl rfl (show vp_in p2 7 by assumption) d_S_rightSignature_40 ?_
  refine lv_i2l hx hb d_S_rightSignature_41 rfl ?_
  refine lv_lmul hx hb d_S_rightSignature_42 ?_
  refine lv_ldc2 hx hb hown (hg (.constantLong R_S 235 9973) (by decide +kernel)) d_S_rightSignature_43 ?_
  refine lv_lrem hx hb d_S_rightSignature_46 (by decide) ?_
  refine lv_l2i hx hb d_S_rightSignature_47 rfl ?_
  exact z_iret (wf := fun _ : Unit => (wC ad G st ++ wr)) (u := ()) hx hb hr hlocks h0 hw rfl (by rw [f_rightSignature]) (Nat.le_of_ble_eq_true rfl) (Nat.le_of_ble_eq_true rfl) d_S_rightSignature_48
set_option maxHeartbeats 4000000 in
set_option maxRecDepth 100000 in
theorem c_S_certificateOf (l : Launch) (G : gG) (ad : Nat → Nat) (st : CS) (wr : va_W) (sz : Nat) (p1 : Int32) (p2 : Int32) (hp1 : tokOK p1) (hp2 : vp_in p2 4) : Met l y_S_certificateOf w_S_certificateOf { frames := 0, cells := 0, slots := 0, locals := 0 } (va_Pc [.ref (ad 0), .int p1, .int p2] (z_pre G (wC ad G st ++ wr) sz)) (z_Qq0 G (wC ad G st ++ wr) sz (wC ad G st ++ wr) (f_certificateOf st p1 p2)) 0 0 (va_A (wC ad G st ++ wr) sz) := by
  refine Met.ofW (cc := b_S_certificateOf) (maxL := 3) (ret := (some (.object "SecureEntry$Certificate"))) (by decide) rfl ?_
  intro p e s m args below meth c s₁ B hml hv
  obtain ⟨rfl, hsz, hP, hK, hD0, ham⟩ := hv
  subst hsz
  have hx := B.exec
  have hb := B.bytes
  have hr := B.returns
  have hts : ∀ w ∈ goT, w.before _ s = true := fun w h => atoms_spec (ws := w_S_certificateOf) B.pre w (List.mem_cons_of_mem _ h)
  have hg : ∀ w, goB w = true → w.before _ s = true := fun w h => hts w (goI h)
  have hown : s.vm.findClass R_S = some m.cls := findClass_of_methodNamed B.named
  have hlocks := B.notSynchronized
  have h0 : z_st G (wC ad G st ++ wr) s := ⟨hK, ham⟩
  have hw : z_wl G (wC ad G st ++ wr) s (wC ad G st ++ wr) s.heap [] := z_0 hP hD0
  have hl := lv_entry ([.ref (ad 0), .int p1, .int p2]) (n := 3) (Nat.le_of_ble_eq_true rfl)
  rw [lg_entry_eq]
  generalize (lg_sl ([.ref (ad 0), .int p1, .int p2]) ++ List.replicate (3 - (lg_sl ([.ref (ad 0), .int p1, .int p2])).length) Slot.unset).toArray = ls at hl ⊢
  have hl : lv_has ls 3 [(0, .ref (ad 0)), (1, .int p1), (2, .int p2)] := hl
  refine lv_iload_n hx hb d_S_certificateOf_0 rfl (lv_at hl 1 rfl) ?_
  refine lv_iconst (v := (-1)) hx hb d_S_certificateOf_1 (by decide) ?_
  refine lv_icmp_ne (tgt := 9) hx hb d_S_certificateOf_2 (by decide) (fun c_2 => ?_) (fun c_2 => ?_)
  · refine lv_aload_n hx hb d_S_certificateOf_9 rfl (lv_at hl 0 rfl) ?_
    refine va_get (D := G.1) (ci := 2) (v := .ref (ad 3)) (C := R_S) (T := T_S) (N := 14) hx hb hts in_S hown h0.1 hw.1 0 rfl rfl 2 (by decide) (hg (.fieldLink R_S 26 "SecureEntry" "certificates" "[LSecureEntry$Certificate;") (by decide +kernel)) (fun _ h9 => h9) rfl d_S_certificateOf_10 ?_
    refine lv_iload_n hx hb d_S_certificateOf_13 rfl (lv_at hl 1 rfl) ?_
    refine lv_iconst (v := 4) hx hb d_S_certificateOf_14 (by decide) ?_
    refine lv_imul hx hb d_S_certificateOf_15 ?_
    refine lv_iload_n hx hb d_S_certificateOf_16 rfl (lv_at hl 2 rfl) ?_
    refine lv_iadd hx hb d_S_certificateOf_17 ?_
    refine va_aldq hx hb h0.1 hw.1 3 1 rfl rfl (z_ix hp1 c_2 hp2) d_S_certificateOf_18 ?_
    exact z_qret (wf := fun _ : Unit => (wC ad G st ++ wr)) (u := ()) (r := (st.2.2.1 ((p1 * 4) + p2).toNatClampNeg)) hx hb hr (Or.inl ⟨_, rfl⟩) hlocks h0 hw (by rw [f_certificateOf, if_neg c_2]) (Nat.le_of_ble_eq_true rfl) (Nat.le_of_ble_eq_true rfl) d_S_certificateOf_19
  · refine lv_null hx hb d_S_certificateOf_5 ?_
    refine lv_goto (tgt := 19) hx hb d_S_certificateOf_6 (by decide) ?_
    exact z_qret (wf := fun _ : Unit => (wC ad G st ++ wr)) (u := ()) (r := none) hx hb hr (Or.inl ⟨_, rfl⟩) hlocks h0 hw (by rw [f_certificateOf, if_pos c_2]) (Nat.le_of_ble_eq_true rfl) (Nat.le_of_ble_eq_true rfl) d_S_certificateOf_19
set_option maxHeartbeats 4000000 in
set_option maxRecDepth 100000 in
theorem c_C_isFitForItsKind (l : Launch) (G : gG) (ws : va_W) (sz : Nat) (a0 k9 : Nat) (w : Nat → Int32) (hk9 : ws[k9]? = some (a0, .inr (0, [.int (w 0), .int (w 1), .int (w 2), .int (w 3), .int (w 4), .int (w 5), .int (w 6)])))   : Met l y_C_isFitForItsKind w_C_isFitForItsKind { frames := 0, cells := 0, slots := 0, locals := 0 } (va_Pc [.ref a0] (z_pre G ws sz)) (z_Qi0 G ws sz ws (f_isFitForItsKind w)) 0 0 (va_A ws sz) := by
  refine Met.ofW (cc := b_C_isFitForItsKind) (maxL := 1) (ret := (some .boolean)) (by decide) rfl ?_
  intro p e s m args below meth c s₁ B hml hv
  obtain ⟨rfl, hsz, hP, hK, hD0, ham⟩ := hv
  subst hsz
  have hx := B.exec
  have hb := B.bytes
  have hr := B.returns
  have hts : ∀ w ∈ goT, w.before _ s = true := fun w h => atoms_spec (ws := w_C_isFitForItsKind) B.pre w (List.mem_cons_of_mem _ h)
  have hg : ∀ w, goB w = true → w.before _ s = true := fun w h => hts w (goI h)
  have hown : s.vm.findClass R_C = some m.cls := findClass_of_methodNamed B.named
  have hlocks := B.notSynchronized
  have h0 : z_st G ws s := ⟨hK, ham⟩
  have hw : z_wl G ws s ws s.heap [] := z_0 hP hD0
  have hl := lv_entry ([.ref a0]) (n := 1) (Nat.le_of_ble_eq_true rfl)
  rw [lg_entry_eq]
  generalize (lg_sl ([.ref a0]) ++ List.replicate (1 - (lg_sl ([.ref a0])).length) Slot.unset).toArray = ls at hl ⊢
  have hl : lv_has ls 1 [(0, .ref a0)] := hl
  refine lv_aload_n hx hb d_C_isFitForItsKind_0 rfl (lv_at hl 0 rfl) ?_
  refine va_get (D := G.1) (ci := 0) (v := .int (w 0)) (C := R_C) (T := T_C) (N := 7) hx hb hts in_C hown h0.1 hw.1 k9 hk9 rfl 0 (by decide) (hg (.fieldLink R_C 9 "SecureEntry$Certificate" "kind" "I") (by decide +kernel)) (fun _ h9 => h9) rfl d_C_isFitForItsKind_1 ?_
  refine lv_iconst (v := 3) hx hb d_C_isFitForItsKind_4 (by decide) ?_
  refine lv_icmp_ne (tgt := 32) hx hb d_C_isFitForItsKind_5 (by decide) (fun c_5 => ?_) (fun c_5 => ?_)
  · refine lv_aload_n hx hb d_C_isFitForItsKind_32 rfl (lv_at hl 0 rfl) ?_
    refine va_get (D := G.1) (ci := 0) (v := .int (w 0)) (C := R_C) (T := T_C) (N := 7) hx hb hts in_C hown h0.1 hw.1 k9 hk9 rfl 0 (by decide) (hg (.fieldLink R_C 9 "SecureEntry$Certificate" "kind" "I") (by decide +kernel)) (fun _ h9 => h9) rfl d_C_isFitForItsKind_33 ?_
    refine lv_iconst (v := 1) hx hb d_C_isFitForItsKind_36 (by decide) ?_
    refine lv_icmp_ne (tgt := 49) hx hb d_C_isFitForItsKind_37 (by decide) (fun c_37 => ?_) (fun c_37 => ?_)
    · refine lv_iconst (v := 1) hx hb d_C_isFitForItsKind_49 (by decide) ?_
      refine lv_goto (tgt := 54) hx hb d_C_isFitForItsKind_50 (by decide) ?_
      exact z_iret (wf := fun _ : Unit => ws) (u := ()) hx hb hr hlocks h0 hw rfl (by rw [f_isFitForItsKind, if_neg c_5, if_neg c_37]) (Nat.le_of_ble_eq_true rfl) (Nat.le_of_ble_eq_true rfl) d_C_isFitForItsKind_54
    · refine lv_aload_n hx hb d_C_isFitForItsKind_40 rfl (lv_at hl 0 rfl) ?_
      refine va_get (D := G.1) (ci := 0) (v := .int (w 3)) (C := R_C) (T := T_C) (N := 7) hx hb hts in_C hown h0.1 hw.1 k9 hk9 rfl 3 (by decide) (hg (.fieldLink R_C 21 "SecureEntry$Certificate" "value" "I") (by decide +kernel)) (fun _ h9 => h9) rfl d_C_isFitForItsKind_41 ?_
      refine lv_bipush (v := 15) hx hb d_C_isFitForItsKind_44 (by decide) ?_
      refine lv_icmp_gt (tgt := 53) hx hb d_C_isFitForItsKind_46 (by decide) (fun c_46 => ?_) (fun c_46 => ?_)
      · refine lv_iconst (v := 0) hx hb d_C_isFitForItsKind_53 (by decide) ?_
        exact z_iret (wf := fun _ : Unit => ws) (u := ()) hx hb hr hlocks h0 hw rfl (by rw [f_isFitForItsKind, if_neg c_5, if_pos c_37, if_pos c_46]) (Nat.le_of_ble_eq_true rfl) (Nat.le_of_ble_eq_true rfl) d_C_isFitForItsKind_54
      · refine lv_iconst (v := 1) hx hb d_C_isFitForItsKind_49 (by decide) ?_
        refine lv_goto (tgt := 54) hx hb d_C_isFitForItsKind_50 (by decide) ?_
        exact z_iret (wf := fun _ : Unit => ws) (u := ()) hx hb hr hlocks h0 hw rfl (by rw [f_isFitForItsKind, if_neg c_5, if_pos c_37, if_neg c_46]) (Nat.le_of_ble_eq_true rfl) (Nat.le_of_ble_eq_true rfl) d_C_isFitForItsKind_54
  · refine lv_aload_n hx hb d_C_isFitForItsKind_8 rfl (lv_at hl 0 rfl) ?_
    refine va_get (D := G.1) (ci := 0) (v := .int (w 1)) (C := R_C) (T := T_C) (N := 7) hx hb hts in_C hown h0.1 hw.1 k9 hk9 rfl 1 (by decide) (hg (.fieldLink R_C 15 "SecureEntry$Certificate" "issuer" "I") (by decide +kernel)) (fun _ h9 => h9) rfl d_C_isFitForItsKind_9 ?_
    refine lv_bipush (v := 6) hx hb d_C_isFitForItsKind_12 (by decide) ?_
    refine lv_icmp_ne (tgt := 30) hx hb d_C_isFitForItsKind_14 (by decide) (fun c_14 => ?_) (fun c_14 => ?_)
    · refine lv_iconst (v := 0) hx hb d_C_isFitForItsKind_30 (by decide) ?_
      exact z_iret (wf := fun _ : Unit => ws) (u := ()) hx hb hr hlocks h0 hw rfl (by rw [f_isFitForItsKind, if_pos c_5, if_neg c_14]) (Nat.le_of_ble_eq_true rfl) (Nat.le_of_ble_eq_true rfl) d_C_isFitForItsKind_31
    · refine lv_aload_n hx hb d_C_isFitForItsKind_17 rfl (lv_at hl 0 rfl) ?_
      refine va_get (D := G.1) (ci := 0) (v := .int (w 3)) (C := R_C) (T := T_C) (N := 7) hx hb hts in_C hown h0.1 hw.1 k9 hk9 rfl 3 (by decide) (hg (.fieldLink R_C 21 "SecureEntry$Certificate" "value" "I") (by decide +kernel)) (fun _ h9 => h9) rfl d_C_isFitForItsKind_18 ?_
      refine lv_bipush (v := 15) hx hb d_C_isFitForItsKind_21 (by decide) ?_
      refine lv_icmp_gt (tgt := 30) hx hb d_C_isFitForItsKind_23 (by decide) (fun c_23 => ?_) (fun c_23 => ?_)
      · refine lv_iconst (v := 0) hx hb d_C_isFitForItsKind_30 (by decide) ?_
        exact z_iret (wf := fun _ : Unit => ws) (u := ()) hx hb hr hlocks h0 hw rfl (by rw [f_isFitForItsKind, if_pos c_5, if_pos c_14, if_pos c_23]) (Nat.le_of_ble_eq_true rfl) (Nat.le_of_ble_eq_true rfl) d_C_isFitForItsKind_31
      · refine lv_iconst (v := 1) hx hb d_C_isFitForItsKind_26 (by decide) ?_
        refine lv_goto (tgt := 31) hx hb d_C_isFitForItsKind_27 (by decide) ?_
        exact z_iret (wf := fun _ : Unit => ws) (u := ()) hx hb hr hlocks h0 hw rfl (by rw [f_isFitForItsKind, if_pos c_5, if_pos c_14, if_neg c_23]) (Nat.le_of_ble_eq_true rfl) (Nat.le_of_ble_eq_true rfl) d_C_isFitForItsKind_31
set_option maxHeartbeats 4000000 in
set_option maxRecDepth 100000 in
theorem c_C_clearance (l : Launch) (G : gG) (ws : va_W) (sz : Nat) (a0 k9 : Nat) (w : Nat → Int32) (hk9 : ws[k9]? = some (a0, .inr (0, [.int (w 0), .int (w 1), .int (w 2), .int (w 3), .int (w 4), .int (w 5), .int (w 6)])))   : Met l y_C_clearance w_C_clearance { frames := 0, cells := 0, slots := 0, locals := 0 } (va_Pc [.ref a0] (z_pre G ws sz)) (z_Qi0 G ws sz ws (f_clearance w)) 0 0 (va_A ws sz) := by
  refine Met.ofW (cc := b_C_clearance) (maxL := 1) (ret := (some .int)) (by decide) rfl ?_
  intro p e s m args below meth c s₁ B hml hv
  obtain ⟨rfl, hsz, hP, hK, hD0, ham⟩ := hv
  subst hsz
  have hx := B.exec
  have hb := B.bytes
  have hr := B.returns
  have hts : ∀ w ∈ goT, w.before _ s = true := fun w h => atoms_spec (ws := w_C_clearance) B.pre w (List.mem_cons_of_mem _ h)
  have hg : ∀ w, goB w = true → w.before _ s = true := fun w h => hts w (goI h)
  have hown : s.vm.findClass R_C = some m.cls := findClass_of_methodNamed B.named
  have hlocks := B.notSynchronized
  have h0 : z_st G ws s := ⟨hK, ham⟩
  have hw : z_wl G ws s ws s.heap [] := z_0 hP hD0
  have hl := lv_entry ([.ref a0]) (n := 1) (Nat.le_of_ble_eq_true rfl)
  rw [lg_entry_eq]
  generalize (lg_sl ([.ref a0]) ++ List.replicate (1 - (lg_sl ([.ref a0])).length) Slot.unset).toArray = ls at hl ⊢
  have hl : lv_has ls 1 [(0, .ref a0)] := hl
  refine lv_aload_n hx hb d_C_clearance_0 rfl (lv_at hl 0 rfl) ?_
  refine va_get (D := G.1) (ci := 0) (v := .int (w 3)) (C := R_C) (T := T_C) (N := 7) hx hb hts in_C hown h0.1 hw.1 k9 hk9 rfl 3 (by decide) (hg (.fieldLink R_C 21 "SecureEntry$Certificate" "value" "I") (by decide +kernel)) (fun _ h9 => h9) rfl d_C_clearance_1 ?_
  refine lv_iconst (v := 4) hx hb d_C_clearance_4 (by decide) ?_
  refine lv_idiv hx hb d_C_clearance_5 (by decide) ?_
  exact z_iret (wf := fun _ : Unit => ws) (u := ()) hx hb hr hlocks h0 hw rfl (by rw [f_clearance]) (Nat.le_of_ble_eq_true rfl) (Nat.le_of_ble_eq_true rfl) d_C_clearance_6
set_option maxHeartbeats 4000000 in
set_option maxRecDepth 100000 in
theorem c_C_role (l : Launch) (G : gG) (ws : va_W) (sz : Nat) (a0 k9 : Nat) (w : Nat → Int32) (hk9 : ws[k9]? = some (a0, .inr (0, [.int (w 0), .int (w 1), .int (w 2), .int (w 3), .int (w 4), .int (w 5), .int (w 6)])))   : Met l y_C_role w_C_role { frames := 0, cells := 0, slots := 0, locals := 0 } (va_Pc [.ref a0] (z_pre G ws sz)) (z_Qi0 G ws sz ws (f_role w)) 0 0 (va_A ws sz) := by
  refine Met.ofW (cc := b_C_role) (maxL := 1) (ret := (some .int)) (by decide) rfl ?_
  intro p e s m args below meth c s₁ B hml hv
  obtain ⟨rfl, hsz, hP, hK, hD0, ham⟩ := hv
  subst hsz
  have hx := B.exec
  have hb := B.bytes
  have hr := B.returns
  have hts : ∀ w ∈ goT, w.before _ s = true := fun w h => atoms_spec (ws := w_C_role) B.pre w (List.mem_cons_of_mem _ h)
  have hg : ∀ w, goB w = true → w.before _ s = true := fun w h => hts w (goI h)
  have hown : s.vm.findClass R_C = some m.cls := findClass_of_methodNamed B.named
  have hlocks := B.notSynchronized
  have h0 : z_st G ws s := ⟨hK, ham⟩
  have hw : z_wl G ws s ws s.heap [] := z_0 hP hD0
  have hl := lv_entry ([.ref a0]) (n := 1) (Nat.le_of_ble_eq_true rfl)
  rw [lg_entry_eq]
  generalize (lg_sl ([.ref a0]) ++ List.replicate (1 - (lg_sl ([.ref a0])).length) Slot.unset).toArray = ls at hl ⊢
  have hl : lv_has ls 1 [(0, .ref a0)] := hl
  refine lv_aload_n hx hb d_C_role_0 rfl (lv_at hl 0 rfl) ?_
  refine va_get (D := G.1) (ci := 0) (v := .int (w 3)) (C := R_C) (T := T_C) (N := 7) hx hb hts in_C hown h0.1 hw.1 k9 hk9 rfl 3 (by decide) (hg (.fieldLink R_C 21 "SecureEntry$Certificate" "value" "I") (by decide +kernel)) (fun _ h9 => h9) rfl d_C_role_1 ?_
  refine lv_iconst (v := 4) hx hb d_C_role_4 (by decide) ?_
  refine lv_irem hx hb d_C_role_5 (by decide) ?_
  exact z_iret (wf := fun _ : Unit => ws) (u := ()) hx hb hr hlocks h0 hw rfl (by rw [f_role]) (Nat.le_of_ble_eq_true rfl) (Nat.le_of_ble_eq_true rfl) d_C_role_6
end CON
end
section
section CON
set_option maxHeartbeats 4000000 in
set_option maxRecDepth 100000 in
theorem c_I_bitCount (l : Launch) (G : gG) (ws : va_W) (sz : Nat) (p1 : Int32)  : Met l y_I_bitCount w_I_bitCount { frames := 0, cells := 0, slots := 0, locals := 0 } (va_Pc [.int p1] (z_pre G ws sz)) (z_Qi0 G ws sz ws (f_bitCount p1)) 0 0 (va_A ws sz) := by
  refine Met.ofW (cc := b_I_bitCount) (maxL := 1) (ret := (some .int)) (by decide) rfl ?_
  intro p e s m args below meth c s₁ B hml hv
  obtain ⟨rfl, hsz, hP, hK, hD0, ham⟩ := hv
  subst hsz
  have hx := B.exec
  have hb := B.bytes
  have hr := B.returns
  have hts : ∀ w ∈ goT, w.before _ s = true := fun w h => atoms_spec (ws := w_I_bitCount) B.pre w (List.mem_cons_of_mem _ h)
  have hg : ∀ w, goB w = true → w.before _ s = true := fun w h => hts w (goI h)
  have hown : s.vm.findClass R_I = some m.cls := findClass_of_methodNamed B.named
  have hlocks := B.notSynchronized
  have h0 : z_st G ws s := ⟨hK, ham⟩
  have hw : z_wl G ws s ws s.heap [] := z_0 hP hD0
  have hl := lv_entry ([.int p1]) (n := 1) (Nat.le_of_ble_eq_true rfl)
  rw [lg_entry_eq]
  generalize (lg_sl ([.int p1]) ++ List.replicate (1 - (lg_sl ([.int p1])).length) Slot.unset).toArray = ls at hl ⊢
  have hl : lv_has ls 1 [(0, .int p1)] := hl
  refine lv_iload_n hx hb d_I_bitCount_0 rfl (lv_at hl 0 rfl) ?_
  refine lv_iload_n hx hb d_I_bitCount_1 rfl (lv_at hl 0 rfl) ?_
  refine lv_iconst (v := 1) hx hb d_I_bitCount_2 (by decide) ?_
  refine lv_iushr hx hb d_I_bitCount_3 rfl ?_
  refine lv_ldcw hx hb hown (hg (.constant R_I 265 1431655765) (by decide +kernel)) d_I_bitCount_4 ?_
  refine lv_iand hx hb d_I_bitCount_7 ?_
  refine lv_isub hx hb d_I_bitCount_8 ?_
  refine lv_istore_n (lv' := [(0, .int (p1 - ((p1.toUInt32 >>> ((1 : Int32).toUInt32 &&& Int32.toUInt32 31)).toInt32 &&& 1431655765)))]) hx hb d_I_bitCount_9 rfl hl (by decide) rfl (fun ls hl => ?_)
  refine lv_iload_n hx hb d_I_bitCount_10 rfl (lv_at hl 0 rfl) ?_
  refine lv_ldcw hx hb hown (hg (.constant R_I 266 858993459) (by decide +kernel)) d_I_bitCount_11 ?_
  refine lv_iand hx hb d_I_bitCount_14 ?_
  refine lv_iload_n hx hb d_I_bitCount_15 rfl (lv_at hl 0 rfl) ?_
  refine lv_iconst (v := 2) hx hb d_I_bitCount_16 (by decide) ?_
  refine lv_iushr hx hb d_I_bitCount_17 rfl ?_
  refine lv_ldcw hx hb hown (hg (.constant R_I 266 858993459) (by decide +kernel)) d_I_bitCount_18 ?_
  refine lv_iand hx hb d_I_bitCount_21 ?_
  refine lv_iadd hx hb d_I_bitCount_22 ?_
  refine lv_istore_n (lv' := [(0, .int (((p1 - ((p1.toUInt32 >>> ((1 : Int32).toUInt32 &&& Int32.toUInt32 31)).toInt32 &&& 1431655765)) &&& 858993459) + (((p1 - ((p1.toUInt32 >>> ((1 : Int32).toUInt32 &&& Int32.toUInt32 31)).toInt32 &&& 1431655765)).toUInt32 >>> ((2 : Int32).toUInt32 &&& Int32.toUInt32 31)).toInt32 &&& 858993459)))]) hx hb d_I_bitCount_23 rfl hl (by decide) rfl (fun ls hl => ?_)
  refine lv_iload_n hx hb d_I_bitCount_24 rfl (lv_at hl 0 rfl) ?_
  refine lv_iload_n hx hb d_I_bitCount_25 rfl (lv_at hl 0 rfl) ?_
  refine lv_iconst (v := 4) hx hb d_I_bitCount_26 (by decide) ?_
  refine lv_iushr hx hb d_I_bitCount_27 rfl ?_
  refine lv_iadd hx hb d_I_bitCount_28 ?_
  refine lv_ldcw hx hb hown (hg (.constant R_I 267 252645135) (by decide +kernel)) d_I_bitCount_29 ?_
  refine lv_iand hx hb d_I_bitCount_32 ?_
  refine lv_istore_n (lv' := [(0, .int (((((p1 - ((p1.toUInt32 >>> ((1 : Int32).toUInt32 &&& Int32.toUInt32 31)).toInt32 &&& 1431655765)) &&& 858993459) + (((p1 - ((p1.toUInt32 >>> ((1 : Int32).toUInt32 &&& Int32.toUInt32 31)).toInt32 &&& 1431655765)).toUInt32 >>> ((2 : Int32).toUInt32 &&& Int32.toUInt32 31)).toInt32 &&& 858993459)) + ((((p1 - ((p1.toUInt32 >>> ((1 : Int32).toUInt32 &&& Int32.toUInt32 31)).toInt32 &&& 1431655765)) &&& 858993459) + (((p1 - ((p1.toUInt32 >>> ((1 : Int32).toUInt32 &&& Int32.toUInt32 31)).toInt32 &&& 1431655765)).toUInt32 >>> ((2 : Int32).toUInt32 &&& Int32.toUInt32 31)).toInt32 &&& 858993459)).toUInt32 >>> ((4 : Int32).toUInt32 &&& Int32.toUInt32 31)).toInt32) &&& 252645135))]) hx hb d_I_bitCount_33 rfl hl (by decide) rfl (fun ls hl => ?_)
  refine lv_iload_n hx hb d_I_bitCount_34 rfl (lv_at hl 0 rfl) ?_
  refine lv_iload_n hx hb d_I_bitCount_35 rfl (lv_at hl 0 rfl) ?_
  refine lv_bipush (v := 8) hx hb d_I_bitCount_36 (by decide) ?_
  refine lv_iushr hx hb d_I_bitCount_38 rfl ?_
  refine lv_iadd hx hb d_I_bitCount_39 ?_
  refine lv_istore_n (lv' := [(0, .int ((((((p1 - ((p1.toUInt32 >>> ((1 : Int32).toUInt32 &&& Int32.toUInt32 31)).toInt32 &&& 1431655765)) &&& 858993459) + (((p1 - ((p1.toUInt32 >>> ((1 : Int32).toUInt32 &&& Int32.toUInt32 31)).toInt32 &&& 1431655765)).toUInt32 >>> ((2 : Int32).toUInt32 &&& Int32.toUInt32 31)).toInt32 &&& 858993459)) + ((((p1 - ((p1.toUInt32 >>> ((1 : Int32).toUInt32 &&& Int32.toUInt32 31)).toInt32 &&& 1431655765)) &&& 858993459) + (((p1 - ((p1.toUInt32 >>> ((1 : Int32).toUInt32 &&& Int32.toUInt32 31)).toInt32 &&& 1431655765)).toUInt32 >>> ((2 : Int32).toUInt32 &&& Int32.toUInt32 31)).toInt32 &&& 858993459)).toUInt32 >>> ((4 : Int32).toUInt32 &&& Int32.toUInt32 31)).toInt32) &&& 252645135) + ((((((p1 - ((p1.toUInt32 >>> ((1 : Int32).toUInt32 &&& Int32.toUInt32 31)).toInt32 &&& 1431655765)) &&& 858993459) + (((p1 - ((p1.toUInt32 >>> ((1 : Int32).toUInt32 &&& Int32.toUInt32 31)).toInt32 &&& 1431655765)).toUInt32 >>> ((2 : Int32).toUInt32 &&& Int32.toUInt32 31)).toInt32 &&& 858993459)) + ((((p1 - ((p1.toUInt32 >>> ((1 : Int32).toUInt32 &&& Int32.toUInt32 31)).toInt32 &&& 1431655765)) &&& 858993459) + (((p1 - ((p1.toUInt32 >>> ((1 : Int32).toUInt32 &&& Int32.toUInt32 31)).toInt32 &&& 1431655765)).toUInt32 >>> ((2 : Int32).toUInt32 &&& Int32.toUInt32 31)).toInt32 &&& 858993459)).toUInt32 >>> ((4 : Int32).toUInt32 &&& Int32.toUInt32 31)).toInt32) &&& 252645135).toUInt32 >>> ((8 : Int32).toUInt32 &&& Int32.toUInt32 31)).toInt32))]) hx hb d_I_bitCount_40 rfl hl (by decide) rfl (fun ls hl => ?_)
  refine lv_iload_n hx hb d_I_bitCount_41 rfl (lv_at hl 0 rfl) ?_
  refine lv_iload_n hx hb d_I_bitCount_42 rfl (lv_at hl 0 rfl) ?_
  refine lv_bipush (v := 16) hx hb d_I_bitCount_43 (by decide) ?_
  refine lv_iushr hx hb d_I_bitCount_45 rfl ?_
  refine lv_iadd hx hb d_I_bitCount_46 ?_
  refine lv_istore_n (lv' := [(0, .int (((((((p1 - ((p1.toUInt32 >>> ((1 : Int32).toUInt32 &&& Int32.toUInt32 31)).toInt32 &&& 1431655765)) &&& 858993459) + (((p1 - ((p1.toUInt32 >>> ((1 : Int32).toUInt32 &&& Int32.toUInt32 31)).toInt32 &&& 1431655765)).toUInt32 >>> ((2 : Int32).toUInt32 &&& Int32.toUInt32 31)).toInt32 &&& 858993459)) + ((((p1 - ((p1.toUInt32 >>> ((1 : Int32).toUInt32 &&& Int32.toUInt32 31)).toInt32 &&& 1431655765)) &&& 858993459) + (((p1 - ((p1.toUInt32 >>> ((1 : Int32).toUInt32 &&& Int32.toUInt32 31)).toInt32 &&& 1431655765)).toUInt32 >>> ((2 : Int32).toUInt32 &&& Int32.toUInt32 31)).toInt32 &&& 858993459)).toUInt32 >>> ((4 : Int32).toUInt32 &&& Int32.toUInt32 31)).toInt32) &&& 252645135) + ((((((p1 - ((p1.toUInt32 >>> ((1 : Int32).toUInt32 &&& Int32.toUInt32 31)).toInt32 &&& 1431655765)) &&& 858993459) + (((p1 - ((p1.toUInt32 >>> ((1 : Int32).toUInt32 &&& Int32.toUInt32 31)).toInt32 &&& 1431655765)).toUInt32 >>> ((2 : Int32).toUInt32 &&& Int32.toUInt32 31)).toInt32 &&& 858993459)) + ((((p1 - ((p1.toUInt32 >>> ((1 : Int32).toUInt32 &&& Int32.toUInt32 31)).toInt32 &&& 1431655765)) &&& 858993459) + (((p1 - ((p1.toUInt32 >>> ((1 : Int32).toUInt32 &&& Int32.toUInt32 31)).toInt32 &&& 1431655765)).toUInt32 >>> ((2 : Int32).toUInt32 &&& Int32.toUInt32 31)).toInt32 &&& 858993459)).toUInt32 >>> ((4 : Int32).toUInt32 &&& Int32.toUInt32 31)).toInt32) &&& 252645135).toUInt32 >>> ((8 : Int32).toUInt32 &&& Int32.toUInt32 31)).toInt32) + (((((((p1 - ((p1.toUInt32 >>> ((1 : Int32).toUInt32 &&& Int32.toUInt32 31)).toInt32 &&& 1431655765)) &&& 858993459) + (((p1 - ((p1.toUInt32 >>> ((1 : Int32).toUInt32 &&& Int32.toUInt32 31)).toInt32 &&& 1431655765)).toUInt32 >>> ((2 : Int32).toUInt32 &&& Int32.toUInt32 31)).toInt32 &&& 858993459)) + ((((p1 - ((p1.toUInt32 >>> ((1 : Int32).toUInt32 &&& Int32.toUInt32 31)).toInt32 &&& 1431655765)) &&& 858993459) + (((p1 - ((p1.toUInt32 >>> ((1 : Int32).toUInt32 &&& Int32.toUInt32 31)).toInt32 &&& 1431655765)).toUInt32 >>> ((2 : Int32).toUInt32 &&& Int32.toUInt32 31)).toInt32 &&& 858993459)).toUInt32 >>> ((4 : Int32).toUInt32 &&& Int32.toUInt32 31)).toInt32) &&& 252645135) + ((((((p1 - ((p1.toUInt32 >>> ((1 : Int32).toUInt32 &&& Int32.toUInt32 31)).toInt32 &&& 1431655765)) &&& 858993459) + (((p1 - ((p1.toUInt32 >>> ((1 : Int32).toUInt32 &&& Int32.toUInt32 31)).toInt32 &&& 1431655765)).toUInt32 >>> ((2 : Int32).toUInt32 &&& Int32.toUInt32 31)).toInt32 &&& 858993459)) + ((((p1 - ((p1.toUInt32 >>> ((1 : Int32).toUInt32 &&& Int32.toUInt32 31)).toInt32 &&& 1431655765)) &&& 858993459) + (((p1 - ((p1.toUInt32 >>> ((1 : Int32).toUInt32 &&& Int32.toUInt32 31)).toInt32 &&& 1431655765)).toUInt32 >>> ((2 : Int32).toUInt32 &&& Int32.toUInt32 31)).toInt32 &&& 858993459)).toUInt32 >>> ((4 : Int32).toUInt32 &&& Int32.toUInt32 31)).toInt32) &&& 252645135).toUInt32 >>> ((8 : Int32).toUInt32 &&& Int32.toUInt32 31)).toInt32).toUInt32 >>> ((16 : Int32).toUInt32 &&& Int32.toUInt32 31)).toInt32))]) hx hb d_I_bitCount_47 rfl hl (by decide) rfl (fun ls hl => ?_)
  refine lv_iload_n hx hb d_I_bitCount_48 rfl (lv_at hl 0 rfl) ?_
  refine lv_bipush (v := 63) hx hb d_I_bitCount_49 (by decide) ?_
  refine lv_iand hx hb d_I_bitCount_51 ?_
  exact z_iret (wf := fun _ : Unit => ws) (u := ()) hx hb hr hlocks h0 hw rfl (by rw [f_bitCount]) (Nat.le_of_ble_eq_true rfl) (Nat.le_of_ble_eq_true rfl) d_I_bitCount_52
set_option maxHeartbeats 4000000 in
set_option maxRecDepth 100000 in
theorem c_S_matches (l : Launch) (G : gG) (ad : Nat → Nat) (st : CS) (wr : va_W) (sz : Nat) (p1 : Int32) (p2 : Int32)  : Met l y_S_matches w_S_matches { frames := 1, cells := 0, slots := 0, locals := 20 } (va_Pc [.ref (ad 0), .int p1, .int p2] (z_pre G (wC ad G st ++ wr) sz)) (z_Qi0 G (wC ad G st ++ wr) sz (wC ad G st ++ wr) (f_matches st p1 p2)) 0 0 (va_A (wC ad G st ++ wr) sz) := by
  refine Met.ofW (cc := b_S_matches) (maxL := 3) (ret := (some .boolean)) (by decide) rfl ?_
  intro p e s m args below meth c s₁ B hml hv
  obtain ⟨rfl, hsz, hP, hK, hD0, ham⟩ := hv
  subst hsz
  have hx := B.exec
  have hb := B.bytes
  have hr := B.returns
  have hts : ∀ w ∈ goT, w.before _ s = true := fun w h => atoms_spec (ws := w_S_matches) B.pre w (List.mem_cons_of_mem _ h)
  have hg : ∀ w, goB w = true → w.before _ s = true := fun w h => hts w (goI h)
  have hown : s.vm.findClass R_S = some m.cls := findClass_of_methodNamed B.named
  have hlocks := B.notSynchronized
  have h0 : z_st G (wC ad G st ++ wr) s := ⟨hK, ham⟩
  have hw : z_wl G (wC ad G st ++ wr) s (wC ad G st ++ wr) s.heap [] := z_0 hP hD0
  have hl := lv_entry ([.ref (ad 0), .int p1, .int p2]) (n := 3) (Nat.le_of_ble_eq_true rfl)
  rw [lg_entry_eq]
  generalize (lg_sl ([.ref (ad 0), .int p1, .int p2]) ++ List.replicate (3 - (lg_sl ([.ref (ad 0), .int p1, .int p2])).length) Slot.unset).toArray = ls at hl ⊢
  have hl : lv_has ls 3 [(0, .ref (ad 0)), (1, .int p1), (2, .int p2)] := hl
  refine lv_iload_n hx hb d_S_matches_0 rfl (lv_at hl 1 rfl) ?_
  refine lv_iload_n hx hb d_S_matches_1 rfl (lv_at hl 2 rfl) ?_
  refine lv_ixor hx hb d_S_matches_2 ?_
  refine z_Si0 (As := [.int (p1 ^^^ p2)]) (v := (f_bitCount (p1 ^^^ p2))) ⟨hx, hb, hml, hown, hts⟩ (c_I_bitCount l G (wC ad G st ++ wr) _ (p1 ^^^ p2)) (va_cwS 1 hts gS_S_249 rfl rfl rfl (by decide +kernel) ⟨Nat.le_of_ble_eq_true rfl, Nat.le_of_ble_eq_true rfl⟩) h0 hw rfl hl.1 rfl (Nat.le_of_ble_eq_true rfl) d_S_matches_3 ⟨Nat.le_of_ble_eq_true rfl, Nat.le_of_ble_eq_true rfl⟩ (fun H locs hw => ?_)
  refine lv_aload_n hx hb d_S_matches_6 rfl (lv_at hl 0 rfl) ?_
  refine va_get (D := G.1) (ci := 2) (v := .ref (ad 1)) (C := R_S) (T := T_S) (N := 14) hx hb hts in_S hown h0.1 hw.1 0 rfl rfl 0 (by decide) (hg (.fieldLink R_S 18 "SecureEntry" "configuration" "[I") (by decide +kernel)) (fun _ h9 => h9) rfl d_S_matches_7 ?_
  refine lv_iconst (v := 4) hx hb d_S_matches_10 (by decide) ?_
  refine va_iald hx hb h0.1 hw.1 1 0 rfl rfl (show vp_in 4 6 by unfold vp_in; decide) d_S_matches_11 ?_
  refine lv_icmp_gt (tgt := 19) hx hb d_S_matches_12 (by decide) (fun c_12 => ?_) (fun c_12 => ?_)
  · refine lv_iconst (v := 0) hx hb d_S_matches_19 (by decide) ?_
    exact z_iret (wf := fun _ : Unit => (wC ad G st ++ wr)) (u := ()) hx hb hr hlocks h0 hw rfl (by rw [f_matches, if_pos c_12]) (Nat.le_of_ble_eq_true rfl) (Nat.le_of_ble_eq_true rfl) d_S_matches_20
  · refine lv_iconst (v := 1) hx hb d_S_matches_15 (by decide) ?_
    refine lv_goto (tgt := 20) hx hb d_S_matches_16 (by decide) ?_
    exact z_iret (wf := fun _ : Unit => (wC ad G st ++ wr)) (u := ()) hx hb hr hlocks h0 hw rfl (by rw [f_matches, if_neg c_12]) (Nat.le_of_ble_eq_true rfl) (Nat.le_of_ble_eq_true rfl) d_S_matches_20
set_option maxHeartbeats 4000000 in
set_option maxRecDepth 100000 in
theorem c_S_give (l : Launch) (G : gG) (ad : Nat → Nat) (st : CS) (wr : va_W) (sz : Nat) (p1 : Int32) (a2 : Nat) (hI : InvC st) (hp1 : vp_in p1 6) (hm_a2 : a2 ∈ st.2.2.2.1) : Met l y_S_give w_S_give { frames := 0, cells := 0, slots := 0, locals := 0 } (va_Pc [.ref (ad 0), .int p1, .ref a2] (z_pre G (wC ad G st ++ wr) sz)) (z_Qv0 G (wC ad G st ++ wr) sz (wC ad G (f_give st p1 a2) ++ wr)) 0 0 (va_A (wC ad G st ++ wr) sz) := by
  refine Met.ofW (cc := b_S_give) (maxL := 3) (ret := none) (by decide) rfl ?_
  intro p e s m args below meth c s₁ B hml hv
  obtain ⟨rfl, hsz, hP, hK, hD0, ham⟩ := hv
  subst hsz
  have hx := B.exec
  have hb := B.bytes
  have hr := B.returns
  have hts : ∀ w ∈ goT, w.before _ s = true := fun w h => atoms_spec (ws := w_S_give) B.pre w (List.mem_cons_of_mem _ h)
  have hg : ∀ w, goB w = true → w.before _ s = true := fun w h => hts w (goI h)
  have hown : s.vm.findClass R_S = some m.cls := findClass_of_methodNamed B.named
  have hlocks := B.notSynchronized
  have h0 : z_st G (wC ad G st ++ wr) s := ⟨hK, ham⟩
  have hw : z_wl G (wC ad G st ++ wr) s (wC ad G st ++ wr) s.heap [] := z_0 hP hD0
  have hl := lv_entry ([.ref (ad 0), .int p1, .ref a2]) (n := 3) (Nat.le_of_ble_eq_true rfl)
  rw [lg_entry_eq]
  generalize (lg_sl ([.ref (ad 0), .int p1, .ref a2]) ++ List.replicate (3 - (lg_sl ([.ref (ad 0), .int p1, .ref a2])).length) Slot.unset).toArray = ls at hl ⊢
  have hl : lv_has ls 3 [(0, .ref (ad 0)), (1, .int p1), (2, .ref a2)] := hl
  refine lv_aload_n hx hb d_S_give_0 rfl (lv_at hl 0 rfl) ?_
  refine va_get (D := G.1) (ci := 2) (v := .ref (ad 3)) (C := R_S) (T := T_S) (N := 14) hx hb hts in_S hown h0.1 hw.1 0 rfl rfl 2 (by decide) (hg (.fieldLink R_S 26 "SecureEntry" "certificates" "[LSecureEntry$Certificate;") (by decide +kernel)) (fun _ h9 => h9) rfl d_S_give_1 ?_
  refine lv_iload_n hx hb d_S_give_4 rfl (lv_at hl 1 rfl) ?_
  refine lv_iconst (v := 4) hx hb d_S_give_5 (by decide) ?_
  refine lv_imul hx hb d_S_give_6 ?_
  refine lv_aload_n hx hb d_S_give_7 rfl (lv_at hl 2 rfl) ?_
  obtain ⟨k_8, hk_8⟩ := z_pool (ad := ad) (G := G) (wr := wr) (st := st) hm_a2
  refine va_get (D := G.1) (ci := 0) (v := .int (st.2.2.2.2 a2 0)) (C := R_C) (T := T_C) (N := 7) hx hb hts in_C hown h0.1 hw.1 k_8 hk_8 rfl 0 (by decide) (hg (.fieldLink R_S 237 "SecureEntry$Certificate" "kind" "I") (by decide +kernel)) (fun _ h9 => h9) rfl d_S_give_8 ?_
  refine lv_iadd hx hb d_S_give_11 ?_
  refine lv_aload_n hx hb d_S_give_12 rfl (lv_at hl 2 rfl) ?_
  obtain ⟨k_13, hk_13⟩ := z_pool (ad := ad) (G := G) (wr := wr) (st := st) hm_a2
  refine va_astq hx hb h0.1 hw.1 hw.2.1 hw.2.2 3 1 k_13 0 rfl rfl hk_13 rfl (z_ix (Or.inr hp1) (z_nm1 hp1) (hI.2.1 _ hm_a2).2) d_S_give_13 (fun H locs hP hD hS => ?_)
  have hw : z_wl G (wC ad G st ++ wr) s (wC ad G (sM st (((p1 * 4) + (st.2.2.2.2 a2 0)).toNatClampNeg) a2) ++ wr) H locs := ⟨hP, hD, hS⟩
  exact z_vret (wf := fun _ : Unit => (wC ad G (f_give st p1 a2) ++ wr)) (u := ()) hx hb hr hlocks h0 (by rw [f_give]; exact hw) trivial (Nat.le_of_ble_eq_true rfl) (Nat.le_of_ble_eq_true rfl) d_S_give_14
set_option maxHeartbeats 4000000 in
set_option maxRecDepth 100000 in
theorem c_S_authorisationBy (l : Launch) (G : gG) (ad : Nat → Nat) (st : CS) (wr : va_W) (sz : Nat) (a1 : Nat) (hm_a1 : a1 ∈ st.2.2.2.1) : Met l y_S_authorisationBy w_S_authorisationBy { frames := 2, cells := 1, slots := 7, locals := 39 } (va_Pc [.ref (ad 0), .ref a1] (z_pre G (wC ad G st ++ wr) sz)) (z_Qq G (wC ad G st ++ wr) sz (fun u : Nat => (wC ad G (sN st u (f_authorisationBy st a1)) ++ wr)) (fun r u => r = some u ∧ u ∉ st.2.2.2.1)) 1 7 (va_A (wC ad G st ++ wr) sz) := by
  refine Met.ofW (cc := b_S_authorisationBy) (maxL := 6) (ret := (some (.object "SecureEntry$Certificate"))) (by decide) rfl ?_
  intro p e s m args below meth c s₁ B hml hv
  obtain ⟨rfl, hsz, hP, hK, hD0, ham⟩ := hv
  subst hsz
  have hx := B.exec
  have hb := B.bytes
  have hr := B.returns
  have hts : ∀ w ∈ goT, w.before _ s = true := fun w h => atoms_spec (ws := w_S_authorisationBy) B.pre w (List.mem_cons_of_mem _ h)
  have hg : ∀ w, goB w = true → w.before _ s = true := fun w h => hts w (goI h)
  have hown : s.vm.findClass R_S = some m.cls := findClass_of_methodNamed B.named
  have hlocks := B.notSynchronized
  have h0 : z_st G (wC ad G st ++ wr) s := ⟨hK, ham⟩
  have hw : z_wl G (wC ad G st ++ wr) s (wC ad G st ++ wr) s.heap [] := z_0 hP hD0
  have hl := lv_entry ([.ref (ad 0), .ref a1]) (n := 6) (Nat.le_of_ble_eq_true rfl)
  rw [lg_entry_eq]
  generalize (lg_sl ([.ref (ad 0), .ref a1]) ++ List.replicate (6 - (lg_sl ([.ref (ad 0), .ref a1])).length) Slot.unset).toArray = ls at hl ⊢
  have hl : lv_has ls 6 [(0, .ref (ad 0)), (1, .ref a1)] := hl
  refine lv_iconst (v := 3) hx hb d_S_authorisationBy_0 (by decide) ?_
  refine lv_istore_n (lv' := [(2, .int 3), (0, .ref (ad 0)), (1, .ref a1)]) hx hb d_S_authorisationBy_1 rfl hl (by decide) rfl (fun ls hl => ?_)
  refine lv_iconst (v := 4) hx hb d_S_authorisationBy_2 (by decide) ?_
  refine lv_aload_n hx hb d_S_authorisationBy_3 rfl (lv_at hl 2 rfl) ?_
  obtain ⟨k_4, hk_4⟩ := z_pool (ad := ad) (G := G) (wr := wr) (st := st) hm_a1
  refine z_Vi0 (As := []) (v := (f_clearance (st.2.2.2.2 a1))) ⟨hx, hb, hml, hown, hts⟩ (c_C_clearance l G (wC ad G st ++ wr) _ a1 k_4 (st.2.2.2.2 a1) hk_4) (cwV 0 hts gV_S_254 rfl rfl rfl (by decide +kernel) ⟨Nat.le_of_ble_eq_true rfl, Nat.le_of_ble_eq_true rfl⟩) h0 hw k_4 hk_4 rfl rfl rfl hl.1 rfl (Nat.le_of_ble_eq_true rfl) d_S_authorisationBy_4 ⟨Nat.le_of_ble_eq_true rfl, Nat.le_of_ble_eq_true rfl⟩ (fun H locs hw => ?_)
  refine lv_aload_n hx hb d_S_authorisationBy_7 rfl (lv_at hl 1 rfl) ?_
  refine va_get (D := G.1) (ci := 2) (v := .ref (ad 1)) (C := R_S) (T := T_S) (N := 14) hx hb hts in_S hown h0.1 hw.1 0 rfl rfl 0 (by decide) (hg (.fieldLink R_S 18 "SecureEntry" "configuration" "[I") (by decide +kernel)) (fun _ h9 => h9) rfl d_S_authorisationBy_8 ?_
  refine lv_iconst (v := 5) hx hb d_S_authorisationBy_11 (by decide) ?_
  refine va_iald hx hb h0.1 hw.1 1 0 rfl rfl (show vp_in 5 6 by unfold vp_in; decide) d_S_authorisationBy_12 ?_
  refine va_mmin hx hb (by rw [hml]; exact hl.1.symm) hown (hg (.methodLink R_S 257 Lib.Math.min.name) (by decide +kernel)) (hg (.static Lib.Math.min.name) (by decide +kernel)) (hg (.initialized "java/lang/Math") (by decide +kernel)) (hg (.code Lib.Math.min.name Lib.Math.min.code 2 (some .int)) (by decide +kernel)) (Nat.le_of_ble_eq_true rfl) (Nat.le_of_ble_eq_true rfl) (Nat.le_of_ble_eq_true rfl) (Nat.le_of_ble_eq_true rfl) d_S_authorisationBy_13 ?_
  refine lv_imul hx hb d_S_authorisationBy_16 ?_
  refine lv_aload_n hx hb d_S_authorisationBy_17 rfl (lv_at hl 2 rfl) ?_
  obtain ⟨k_18, hk_18⟩ := z_pool (ad := ad) (G := G) (wr := wr) (st := st) hm_a1
  refine z_Vi0 (As := []) (v := (f_role (st.2.2.2.2 a1))) ⟨hx, hb, hml, hown, hts⟩ (c_C_role l G (wC ad G st ++ wr) _ a1 k_18 (st.2.2.2.2 a1) hk_18) (cwV 0 hts gV_S_246 rfl rfl rfl (by decide +kernel) ⟨Nat.le_of_ble_eq_true rfl, Nat.le_of_ble_eq_true rfl⟩) h0 hw k_18 hk_18 rfl rfl rfl hl.1 rfl (Nat.le_of_ble_eq_true rfl) d_S_authorisationBy_18 ⟨Nat.le_of_ble_eq_true rfl, Nat.le_of_ble_eq_true rfl⟩ (fun H locs hw => ?_)
  refine lv_iadd hx hb d_S_authorisationBy_21 ?_
  refine lv_istore_n (lv' := [(3, .int ((4 * (if ((st.2.1 0) (5 : Int32).toNatClampNeg) < (f_clearance (st.2.2.2.2 a1)) then ((st.2.1 0) (5 : Int32).toNatClampNeg) else (f_clearance (st.2.2.2.2 a1)))) + (f_role (st.2.2.2.2 a1)))), (2, .int 3), (0, .ref (ad 0)), (1, .ref a1)]) hx hb d_S_authorisationBy_22 rfl hl (by decide) rfl (fun ls hl => ?_)
  refine lv_aload_n hx hb d_S_authorisationBy_23 rfl (lv_at hl 2 rfl) ?_
  refine va_get (D := G.1) (ci := 2) (v := .int (st.1 4)) (C := R_S) (T := T_S) (N := 14) hx hb hts in_S hown h0.1 hw.1 0 rfl rfl 4 (by decide) (hg (.fieldLink R_S 101 "SecureEntry" "time" "I") (by decide +kernel)) (fun _ h9 => h9) rfl d_S_authorisationBy_24 ?_
  refine lv_aload_n hx hb d_S_authorisationBy_27 rfl (lv_at hl 2 rfl) ?_
  refine va_get (D := G.1) (ci := 2) (v := .ref (ad 1)) (C := R_S) (T := T_S) (N := 14) hx hb hts in_S hown h0.1 hw.1 0 rfl rfl 0 (by decide) (hg (.fieldLink R_S 18 "SecureEntry" "configuration" "[I") (by decide +kernel)) (fun _ h9 => h9) rfl d_S_authorisationBy_28 ?_
  refine lv_iconst (v := 3) hx hb d_S_authorisationBy_31 (by decide) ?_
  refine va_iald hx hb h0.1 hw.1 1 0 rfl rfl (show vp_in 3 6 by unfold vp_in; decide) d_S_authorisationBy_32 ?_
  refine lv_iadd hx hb d_S_authorisationBy_33 ?_
  refine lv_ldc hx hb hown (hg (.constant R_S 183 100000) (by decide +kernel)) d_S_authorisationBy_34 ?_
  refine va_mmin hx hb (by rw [hml]; exact hl.1.symm) hown (hg (.methodLink R_S 257 Lib.Math.min.name) (by decide +kernel)) (hg (.static Lib.Math.min.name) (by decide +kernel)) (hg (.initialized "java/lang/Math") (by decide +kernel)) (hg (.code Lib.Math.min.name Lib.Math.min.code 2 (some .int)) (by decide +kernel)) (Nat.le_of_ble_eq_true rfl) (Nat.le_of_ble_eq_true rfl) (Nat.le_of_ble_eq_true rfl) (Nat.le_of_ble_eq_true rfl) d_S_authorisationBy_36 ?_
  refine lv_istore (lv' := [(4, .int (if 100000 < ((st.1 4) + ((st.2.1 0) (3 : Int32).toNatClampNeg)) then 100000 else ((st.1 4) + ((st.2.1 0) (3 : Int32).toNatClampNeg)))), (3, .int ((4 * (if ((st.2.1 0) (5 : Int32).toNatClampNeg) < (f_clearance (st.2.2.2.2 a1)) then ((st.2.1 0) (5 : Int32).toNatClampNeg) else (f_clearance (st.2.2.2.2 a1)))) + (f_role (st.2.2.2.2 a1)))), (2, .int 3), (0, .ref (ad 0)), (1, .ref a1)]) hx hb d_S_authorisationBy_39 hl (by decide) rfl (fun ls hl => ?_)
  refine lv_aload_n hx hb d_S_authorisationBy_41 rfl (lv_at hl 3 rfl) ?_
  refine lv_iload_n hx hb d_S_authorisationBy_42 rfl (lv_at hl 2 rfl) ?_
  refine lv_bipush (v := 6) hx hb d_S_authorisationBy_43 (by decide) ?_
  refine lv_aload_n hx hb d_S_authorisationBy_45 rfl (lv_at hl 4 rfl) ?_
  obtain ⟨k_46, hk_46⟩ := z_pool (ad := ad) (G := G) (wr := wr) (st := st) hm_a1
  refine va_get (D := G.1) (ci := 0) (v := .int (st.2.2.2.2 a1 2)) (C := R_C) (T := T_C) (N := 7) hx hb hts in_C hown h0.1 hw.1 k_46 hk_46 rfl 2 (by decide) (hg (.fieldLink R_S 205 "SecureEntry$Certificate" "holder" "I") (by decide +kernel)) (fun _ h9 => h9) rfl d_S_authorisationBy_46 ?_
  refine lv_iload_n hx hb d_S_authorisationBy_49 rfl (lv_at hl 1 rfl) ?_
  refine lv_aload_n hx hb d_S_authorisationBy_50 rfl (lv_at hl 3 rfl) ?_
  refine va_get (D := G.1) (ci := 2) (v := .int (st.1 4)) (C := R_S) (T := T_S) (N := 14) hx hb hts in_S hown h0.1 hw.1 0 rfl rfl 4 (by decide) (hg (.fieldLink R_S 101 "SecureEntry" "time" "I") (by decide +kernel)) (fun _ h9 => h9) rfl d_S_authorisationBy_51 ?_
  refine lv_iload hx hb d_S_authorisationBy_54 (lv_at hl 0 rfl) ?_
  refine z_Vi0 (As := [.int 3, .int 6, .int (st.2.2.2.2 a1 2), .int ((4 * (if ((st.2.1 0) (5 : Int32).toNatClampNeg) < (f_clearance (st.2.2.2.2 a1)) then ((st.2.1 0) (5 : Int32).toNatClampNeg) else (f_clearance (st.2.2.2.2 a1)))) + (f_role (st.2.2.2.2 a1))), .int (st.1 4), .int (if 100000 < ((st.1 4) + ((st.2.1 0) (3 : Int32).toNatClampNeg)) then 100000 else ((st.1 4) + ((st.2.1 0) (3 : Int32).toNatClampNeg)))]) (v := (f_rightSignature st 3 6 (st.2.2.2.2 a1 2) ((4 * (if ((st.2.1 0) (5 : Int32).toNatClampNeg) < (f_clearance (st.2.2.2.2 a1)) then ((st.2.1 0) (5 : Int32).toNatClampNeg) else (f_clearance (st.2.2.2.2 a1)))) + (f_role (st.2.2.2.2 a1))) (st.1 4) (if 100000 < ((st.1 4) + ((st.2.1 0) (3 : Int32).toNatClampNeg)) then 100000 else ((st.1 4) + ((st.2.1 0) (3 : Int32).toNatClampNeg))))) ⟨hx, hb, hml, hown, hts⟩ (c_S_rightSignature l G ad st wr _ 3 6 (st.2.2.2.2 a1 2) ((4 * (if ((st.2.1 0) (5 : Int32).toNatClampNeg) < (f_clearance (st.2.2.2.2 a1)) then ((st.2.1 0) (5 : Int32).toNatClampNeg) else (f_clearance (st.2.2.2.2 a1)))) + (f_role (st.2.2.2.2 a1))) (st.1 4) (if 100000 < ((st.1 4) + ((st.2.1 0) (3 : Int32).toNatClampNeg)) then 100000 else ((st.1 4) + ((st.2.1 0) (3 : Int32).toNatClampNeg))) (by first | assumption | exact hI.2.2.2.1 | exact hI.2.2.2.2 | (unfold vp_in; decide) | exact Or.inr (by assumption) | exact cof_mem hI | (intro a h; cases h; assumption) | exact (hI.2.1 _ (by assumption)).1)) (cwV 6 hts gV_S_61 rfl rfl rfl (by decide +kernel) ⟨Nat.le_of_ble_eq_true rfl, Nat.le_of_ble_eq_true rfl⟩) h0 hw 0 rfl rfl rfl rfl hl.1 rfl (Nat.le_of_ble_eq_true rfl) d_S_authorisationBy_56 ⟨Nat.le_of_ble_eq_true rfl, Nat.le_of_ble_eq_true rfl⟩ (fun H locs hw => ?_)
  refine lv_istore (lv' := [(5, .int (f_rightSignature st 3 6 (st.2.2.2.2 a1 2) ((4 * (if ((st.2.1 0) (5 : Int32).toNatClampNeg) < (f_clearance (st.2.2.2.2 a1)) then ((st.2.1 0) (5 : Int32).toNatClampNeg) else (f_clearance (st.2.2.2.2 a1)))) + (f_role (st.2.2.2.2 a1))) (st.1 4) (if 100000 < ((st.1 4) + ((st.2.1 0) (3 : Int32).toNatClampNeg)) then 100000 else ((st.1 4) + ((st.2.1 0) (3 : Int32).toNatClampNeg))))), (4, .int (if 100000 < ((st.1 4) + ((st.2.1 0) (3 : Int32).toNatClampNeg)) then 100000 else ((st.1 4) + ((st.2.1 0) (3 : Int32).toNatClampNeg)))), (3, .int ((4 * (if ((st.2.1 0) (5 : Int32).toNatClampNeg) < (f_clearance (st.2.2.2.2 a1)) then ((st.2.1 0) (5 : Int32).toNatClampNeg) else (f_clearance (st.2.2.2.2 a1)))) + (f_role (st.2.2.2.2 a1)))), (2, .int 3), (0, .ref (ad 0)), (1, .ref a1)]) hx hb d_S_authorisationBy_59 hl (by decide) rfl (fun ls hl => ?_)
  refine va_new (D := G.1) (ci := 0) (fs := [.int 0, .int 0, .int 0, .int 0, .int 0, .int 0, .int 0]) (C := R_C) (T := T_C) (N := 7) hx hb hts in_C ty_C ty_C_ok hown (hg (.classLink R_S 24 R_C) (by decide +kernel)) (hg (.instantiable R_C 7) (by decide +kernel)) (hg (.initialized R_C) (by decide +kernel)) h0.1 hw.1 hw.2.1 hw.2.2 (fun q h => Or.inr h) rfl (fun j hj => by rcases (show j = 0 ∨ j = 1 ∨ j = 2 ∨ j = 3 ∨ j = 4 ∨ j = 5 ∨ j = 6 by omega) with rfl | rfl | rfl | rfl | rfl | rfl | rfl <;> rfl) (Nat.le_of_ble_eq_true rfl) (Nat.le_of_ble_eq_true rfl) d_S_authorisationBy_61 (fun q_61 H hP hD hS => ?_)
  have hw := z_asc (G := G) (ws0 := (wC ad G st ++ wr)) (s := s) (a := wC ad G st) (b := wr) (c := [(q_61, .inr (0, [.int 0, .int 0, .int 0, .int 0, .int 0, .int 0, .int 0]))]) hP hD hS
  refine lv_dup hx hb d_S_authorisationBy_64 rfl ?_
  refine lv_iload_n hx hb d_S_authorisationBy_65 rfl (lv_at hl 3 rfl) ?_
  refine lv_bipush (v := 6) hx hb d_S_authorisationBy_66 (by decide) ?_
  refine lv_aload_n hx hb d_S_authorisationBy_68 rfl (lv_at hl 5 rfl) ?_
  obtain ⟨k_69, hk_69⟩ := z_pool (ad := ad) (G := G) (wr := (wr ++ [(q_61, .inr (0, [.int 0, .int 0, .int 0, .int 0, .int 0, .int 0, .int 0]))])) (st := st) hm_a1
  refine va_get (D := G.1) (ci := 0) (v := .int (st.2.2.2.2 a1 2)) (C := R_C) (T := T_C) (N := 7) hx hb hts in_C hown h0.1 hw.1 k_69 hk_69 rfl 2 (by decide) (hg (.fieldLink R_S 205 "SecureEntry$Certificate" "holder" "I") (by decide +kernel)) (fun _ h9 => h9) rfl d_S_authorisationBy_69 ?_
  refine lv_iload_n hx hb d_S_authorisationBy_72 rfl (lv_at hl 2 rfl) ?_
  refine lv_aload_n hx hb d_S_authorisationBy_73 rfl (lv_at hl 4 rfl) ?_
  refine va_get (D := G.1) (ci := 2) (v := .int (st.1 4)) (C := R_S) (T := T_S) (N := 14) hx hb hts in_S hown h0.1 hw.1 0 rfl rfl 4 (by decide) (hg (.fieldLink R_S 101 "SecureEntry" "time" "I") (by decide +kernel)) (fun _ h9 => h9) rfl d_S_authorisationBy_74 ?_
  refine lv_iload hx hb d_S_authorisationBy_77 (lv_at hl 1 rfl) ?_
  refine lv_iload hx hb d_S_authorisationBy_79 (lv_at hl 0 rfl) ?_
  have hw := z_csa hw
  refine z_Iv0 (As := [.int 3, .int 6, .int (st.2.2.2.2 a1 2), .int ((4 * (if ((st.2.1 0) (5 : Int32).toNatClampNeg) < (f_clearance (st.2.2.2.2 a1)) then ((st.2.1 0) (5 : Int32).toNatClampNeg) else (f_clearance (st.2.2.2.2 a1)))) + (f_role (st.2.2.2.2 a1))), .int (st.1 4), .int (if 100000 < ((st.1 4) + ((st.2.1 0) (3 : Int32).toNatClampNeg)) then 100000 else ((st.1 4) + ((st.2.1 0) (3 : Int32).toNatClampNeg))), .int (f_rightSignature st 3 6 (st.2.2.2.2 a1 2) ((4 * (if ((st.2.1 0) (5 : Int32).toNatClampNeg) < (f_clearance (st.2.2.2.2 a1)) then ((st.2.1 0) (5 : Int32).toNatClampNeg) else (f_clearance (st.2.2.2.2 a1)))) + (f_role (st.2.2.2.2 a1))) (st.1 4) (if 100000 < ((st.1 4) + ((st.2.1 0) (3 : Int32).toNatClampNeg)) then 100000 else ((st.1 4) + ((st.2.1 0) (3 : Int32).toNatClampNeg))))]) (ws1 := (wC ad G st ++ wr) ++ [(q_61, .inr (0, [.int 3, .int 6, .int (st.2.2.2.2 a1 2), .int ((4 * (if ((st.2.1 0) (5 : Int32).toNatClampNeg) < (f_clearance (st.2.2.2.2 a1)) then ((st.2.1 0) (5 : Int32).toNatClampNeg) else (f_clearance (st.2.2.2.2 a1)))) + (f_role (st.2.2.2.2 a1))), .int (st.1 4), .int (if 100000 < ((st.1 4) + ((st.2.1 0) (3 : Int32).toNatClampNeg)) then 100000 else ((st.1 4) + ((st.2.1 0) (3 : Int32).toNatClampNeg))), .int (f_rightSignature st 3 6 (st.2.2.2.2 a1 2) ((4 * (if ((st.2.1 0) (5 : Int32).toNatClampNeg) < (f_clearance (st.2.2.2.2 a1)) then ((st.2.1 0) (5 : Int32).toNatClampNeg) else (f_clearance (st.2.2.2.2 a1)))) + (f_role (st.2.2.2.2 a1))) (st.1 4) (if 100000 < ((st.1 4) + ((st.2.1 0) (3 : Int32).toNatClampNeg)) then 100000 else ((st.1 4) + ((st.2.1 0) (3 : Int32).toNatClampNeg))))]))]) ⟨hx, hb, hml, hown, hts⟩ (c_C_init l G (wC ad G st ++ wr) _ q_61 3 6 (st.2.2.2.2 a1 2) ((4 * (if ((st.2.1 0) (5 : Int32).toNatClampNeg) < (f_clearance (st.2.2.2.2 a1)) then ((st.2.1 0) (5 : Int32).toNatClampNeg) else (f_clearance (st.2.2.2.2 a1)))) + (f_role (st.2.2.2.2 a1))) (st.1 4) (if 100000 < ((st.1 4) + ((st.2.1 0) (3 : Int32).toNatClampNeg)) then 100000 else ((st.1 4) + ((st.2.1 0) (3 : Int32).toNatClampNeg))) (f_rightSignature st 3 6 (st.2.2.2.2 a1 2) ((4 * (if ((st.2.1 0) (5 : Int32).toNatClampNeg) < (f_clearance (st.2.2.2.2 a1)) then ((st.2.1 0) (5 : Int32).toNatClampNeg) else (f_clearance (st.2.2.2.2 a1)))) + (f_role (st.2.2.2.2 a1))) (st.1 4) (if 100000 < ((st.1 4) + ((st.2.1 0) (3 : Int32).toNatClampNeg)) then 100000 else ((st.1 4) + ((st.2.1 0) (3 : Int32).toNatClampNeg))))) (cwI 7 hts gI_C_init rfl rfl rfl (hg (.initialized R_C) (by decide +kernel)) (hg (.methodLink R_S 80 y_C_init) (by decide +kernel)) (hg (.instanceMethod y_C_init) (by decide +kernel)) rfl (by decide +kernel) ⟨Nat.le_of_ble_eq_true rfl, Nat.le_of_ble_eq_true rfl⟩) h0 hw rfl hl.1 rfl (Nat.le_of_ble_eq_true rfl) d_S_authorisationBy_81 ⟨Nat.le_of_ble_eq_true rfl, Nat.le_of_ble_eq_true rfl⟩ (fun H locs hw => ?_)
  obtain ⟨hq_q_61, hw⟩ := z_into (w := w7 3 6 (st.2.2.2.2 a1 2) ((4 * (if ((st.2.1 0) (5 : Int32).toNatClampNeg) < (f_clearance (st.2.2.2.2 a1)) then ((st.2.1 0) (5 : Int32).toNatClampNeg) else (f_clearance (st.2.2.2.2 a1)))) + (f_role (st.2.2.2.2 a1))) (st.1 4) (if 100000 < ((st.1 4) + ((st.2.1 0) (3 : Int32).toNatClampNeg)) then 100000 else ((st.1 4) + ((st.2.1 0) (3 : Int32).toNatClampNeg))) (f_rightSignature st 3 6 (st.2.2.2.2 a1 2) ((4 * (if ((st.2.1 0) (5 : Int32).toNatClampNeg) < (f_clearance (st.2.2.2.2 a1)) then ((st.2.1 0) (5 : Int32).toNatClampNeg) else (f_clearance (st.2.2.2.2 a1)))) + (f_role (st.2.2.2.2 a1))) (st.1 4) (if 100000 < ((st.1 4) + ((st.2.1 0) (3 : Int32).toNatClampNeg)) then 100000 else ((st.1 4) + ((st.2.1 0) (3 : Int32).toNatClampNeg))))) hw
  have hm_q_61 : q_61 ∈ (sN st q_61 (w7 3 6 (st.2.2.2.2 a1 2) ((4 * (if ((st.2.1 0) (5 : Int32).toNatClampNeg) < (f_clearance (st.2.2.2.2 a1)) then ((st.2.1 0) (5 : Int32).toNatClampNeg) else (f_clearance (st.2.2.2.2 a1)))) + (f_role (st.2.2.2.2 a1))) (st.1 4) (if 100000 < ((st.1 4) + ((st.2.1 0) (3 : Int32).toNatClampNeg)) then 100000 else ((st.1 4) + ((st.2.1 0) (3 : Int32).toNatClampNeg))) (f_rightSignature st 3 6 (st.2.2.2.2 a1 2) ((4 * (if ((st.2.1 0) (5 : Int32).toNatClampNeg) < (f_clearance (st.2.2.2.2 a1)) then ((st.2.1 0) (5 : Int32).toNatClampNeg) else (f_clearance (st.2.2.2.2 a1)))) + (f_role (st.2.2.2.2 a1))) (st.1 4) (if 100000 < ((st.1 4) + ((st.2.1 0) (3 : Int32).toNatClampNeg)) then 100000 else ((st.1 4) + ((st.2.1 0) (3 : Int32).toNatClampNeg)))))).2.2.2.1 := z_inN
  exact z_qret (wf := fun u : Nat => (wC ad G (sN st u (f_authorisationBy st a1)) ++ wr)) (u := q_61) (r := some q_61) hx hb hr (Or.inl ⟨_, rfl⟩) hlocks h0 (by rw [f_authorisationBy]; exact hw) ⟨rfl, hq_q_61⟩ (Nat.le_of_ble_eq_true rfl) (Nat.le_of_ble_eq_true rfl) d_S_authorisationBy_84
set_option maxHeartbeats 4000000 in
set_option maxRecDepth 100000 in
theorem c_S_isValid (l : Launch) (G : gG) (ad : Nat → Nat) (st : CS) (wr : va_W) (sz : Nat) (q1 : Option Nat) (hI : InvC st) (hq : ∀ a, q1 = some a → a ∈ st.2.2.2.1) : Met l y_S_isValid w_S_isValid { frames := 1, cells := 0, slots := 0, locals := 27 } (va_Pc [.ref (ad 0), va_rf q1] (z_pre G (wC ad G st ++ wr) sz)) (z_Qi0 G (wC ad G st ++ wr) sz (wC ad G st ++ wr) (f_isValid st q1)) 0 0 (va_A (wC ad G st ++ wr) sz) := by
  refine Met.ofW (cc := b_S_isValid) (maxL := 2) (ret := (some .boolean)) (by decide) rfl ?_
  intro p e s m args below meth c s₁ B hml hv
  obtain ⟨rfl, hsz, hP, hK, hD0, ham⟩ := hv
  subst hsz
  have hx := B.exec
  have hb := B.bytes
  have hr := B.returns
  have hts : ∀ w ∈ goT, w.before _ s = true := fun w h => atoms_spec (ws := w_S_isValid) B.pre w (List.mem_cons_of_mem _ h)
  have hg : ∀ w, goB w = true → w.before _ s = true := fun w h => hts w (goI h)
  have hown : s.vm.findClass R_S = some m.cls := findClass_of_methodNamed B.named
  have hlocks := B.notSynchronized
  have h0 : z_st G (wC ad G st ++ wr) s := ⟨hK, ham⟩
  have hw : z_wl G (wC ad G st ++ wr) s (wC ad G st ++ wr) s.heap [] := z_0 hP hD0
  have hl := lv_entry ([.ref (ad 0), va_rf q1]) (n := 2) (by cases q1 <;> exact Nat.le_of_ble_eq_true rfl)
  rw [lg_entry_eq]
  generalize (lg_sl ([.ref (ad 0), va_rf q1]) ++ List.replicate (2 - (lg_sl ([.ref (ad 0), va_rf q1])).length) Slot.unset).toArray = ls at hl ⊢
  have hl : lv_has ls 2 [(0, .ref (ad 0)), (1, va_rf q1)] := by cases q1 <;> exact hl
  refine z_aload_n (r := q1) hx hb d_S_isValid_0 rfl (lv_at hl 1 rfl) ?_
  refine z_ifnull (r := q1) (tgt := 79) hx hb d_S_isValid_1 (by decide) (fun e_1 => ?_) (fun a_1 e_1 => ?_)
  · have hl : lv_has ls 2 [(0, .ref (ad 0)), (1, .null)] := by rw [e_1] at hl; exact hl
    refine lv_iconst (v := 0) hx hb d_S_isValid_79 (by decide) ?_
    exact z_iret (wf := fun _ : Unit => (wC ad G st ++ wr)) (u := ()) hx hb hr hlocks h0 hw rfl (by rw [f_isValid, e_1, oel_none]) (Nat.le_of_ble_eq_true rfl) (Nat.le_of_ble_eq_true rfl) d_S_isValid_80
  · have hl : lv_has ls 2 [(0, .ref (ad 0)), (1, .ref a_1)] := by rw [e_1] at hl; exact hl
    have hm_a_1 : a_1 ∈ st.2.2.2.1 := hq _ e_1
    refine lv_aload_n hx hb d_S_isValid_4 rfl (lv_at hl 0 rfl) ?_
    refine lv_aload_n hx hb d_S_isValid_5 rfl (lv_at hl 1 rfl) ?_
    obtain ⟨k_6, hk_6⟩ := z_pool (ad := ad) (G := G) (wr := wr) (st := st) hm_a_1
    refine va_get (D := G.1) (ci := 0) (v := .int (st.2.2.2.2 a_1 1)) (C := R_C) (T := T_C) (N := 7) hx hb hts in_C hown h0.1 hw.1 k_6 hk_6 rfl 1 (by decide) (hg (.fieldLink R_S 202 "SecureEntry$Certificate" "issuer" "I") (by decide +kernel)) (fun _ h9 => h9) rfl d_S_isValid_6 ?_
    refine z_Vi0 (As := [.int (st.2.2.2.2 a_1 1)]) (v := (f_isEnrolled st (st.2.2.2.2 a_1 1))) ⟨hx, hb, hml, hown, hts⟩ (c_S_isEnrolled l G ad st wr _ (st.2.2.2.2 a_1 1) (by first | assumption | exact hI.2.2.2.1 | exact hI.2.2.2.2 | (unfold vp_in; decide) | exact Or.inr (by assumption) | exact cof_mem hI | (intro a h; cases h; assumption) | exact (hI.2.1 _ (by assumption)).1)) (cwV 1 hts gV_S_57 rfl rfl rfl (by decide +kernel) ⟨Nat.le_of_ble_eq_true rfl, Nat.le_of_ble_eq_true rfl⟩) h0 hw 0 rfl rfl rfl rfl hl.1 rfl (Nat.le_of_ble_eq_true rfl) d_S_isValid_9 ⟨Nat.le_of_ble_eq_true rfl, Nat.le_of_ble_eq_true rfl⟩ (fun H locs hw => ?_)
    refine lv_if_eq (tgt := 79) hx hb d_S_isValid_12 (by decide) (fun c_12 => ?_) (fun c_12 => ?_)
    · refine lv_iconst (v := 0) hx hb d_S_isValid_79 (by decide) ?_
      exact z_iret (wf := fun _ : Unit => (wC ad G st ++ wr)) (u := ()) hx hb hr hlocks h0 hw rfl (by rw [f_isValid, e_1, oel_some, if_pos c_12]) (Nat.le_of_ble_eq_true rfl) (Nat.le_of_ble_eq_true rfl) d_S_isValid_80
    · refine lv_aload_n hx hb d_S_isValid_15 rfl (lv_at hl 0 rfl) ?_
      refine va_get (D := G.1) (ci := 2) (v := .int (st.1 4)) (C := R_S) (T := T_S) (N := 14) hx hb hts in_S hown h0.1 hw.1 0 rfl rfl 4 (by decide) (hg (.fieldLink R_S 101 "SecureEntry" "time" "I") (by decide +kernel)) (fun _ h9 => h9) rfl d_S_isValid_16 ?_
      refine lv_aload_n hx hb d_S_isValid_19 rfl (lv_at hl 1 rfl) ?_
      obtain ⟨k_20, hk_20⟩ := z_pool (ad := ad) (G := G) (wr := wr) (st := st) hm_a_1
      refine va_get (D := G.1) (ci := 0) (v := .int (st.2.2.2.2 a_1 4)) (C := R_C) (T := T_C) (N := 7) hx hb hts in_C hown h0.1 hw.1 k_20 hk_20 rfl 4 (by decide) (hg (.fieldLink R_S 208 "SecureEntry$Certificate" "from" "I") (by decide +kernel)) (fun _ h9 => h9) rfl d_S_isValid_20 ?_
      refine lv_aload_n hx hb d_S_isValid_23 rfl (lv_at hl 1 rfl) ?_
      obtain ⟨k_24, hk_24⟩ := z_pool (ad := ad) (G := G) (wr := wr) (st := st) hm_a_1
      refine va_get (D := G.1) (ci := 0) (v := .int (st.2.2.2.2 a_1 5)) (C := R_C) (T := T_C) (N := 7) hx hb hts in_C hown h0.1 hw.1 k_24 hk_24 rfl 5 (by decide) (hg (.fieldLink R_S 211 "SecureEntry$Certificate" "to" "I") (by decide +kernel)) (fun _ h9 => h9) rfl d_S_isValid_24 ?_
      refine z_Si0 (As := [.int (st.1 4), .int (st.2.2.2.2 a_1 4), .int (st.2.2.2.2 a_1 5)]) (v := (f_isWithin (st.1 4) (st.2.2.2.2 a_1 4) (st.2.2.2.2 a_1 5))) ⟨hx, hb, hml, hown, hts⟩ (c_S_isWithin l G (wC ad G st ++ wr) _ (st.1 4) (st.2.2.2.2 a_1 4) (st.2.2.2.2 a_1 5)) (cwS 3 hts gS_S_69 rfl rfl rfl (by decide +kernel) ⟨Nat.le_of_ble_eq_true rfl, Nat.le_of_ble_eq_true rfl⟩) h0 hw rfl hl.1 rfl (Nat.le_of_ble_eq_true rfl) d_S_isValid_27 ⟨Nat.le_of_ble_eq_true rfl, Nat.le_of_ble_eq_true rfl⟩ (fun H locs hw => ?_)
      refine lv_if_eq (tgt := 79) hx hb d_S_isValid_30 (by decide) (fun c_30 => ?_) (fun c_30 => ?_)
      · refine lv_iconst (v := 0) hx hb d_S_isValid_79 (by decide) ?_
        exact z_iret (wf := fun _ : Unit => (wC ad G st ++ wr)) (u := ()) hx hb hr hlocks h0 hw rfl (by rw [f_isValid, e_1, oel_some, if_neg c_12, if_pos c_30]) (Nat.le_of_ble_eq_true rfl) (Nat.le_of_ble_eq_true rfl) d_S_isValid_80
      · refine lv_aload_n hx hb d_S_isValid_33 rfl (lv_at hl 1 rfl) ?_
        obtain ⟨k_34, hk_34⟩ := z_pool (ad := ad) (G := G) (wr := wr) (st := st) hm_a_1
        refine z_Vi0 (As := []) (v := (f_isFitForItsKind (st.2.2.2.2 a_1))) ⟨hx, hb, hml, hown, hts⟩ (c_C_isFitForItsKind l G (wC ad G st ++ wr) _ a_1 k_34 (st.2.2.2.2 a_1) hk_34) (cwV 0 hts gV_S_240 rfl rfl rfl (by decide +kernel) ⟨Nat.le_of_ble_eq_true rfl, Nat.le_of_ble_eq_true rfl⟩) h0 hw k_34 hk_34 rfl rfl rfl hl.1 rfl (Nat.le_of_ble_eq_true rfl) d_S_isValid_34 ⟨Nat.le_of_ble_eq_true rfl, Nat.le_of_ble_eq_true rfl⟩ (fun H locs hw => ?_)
        refine lv_if_eq (tgt := 79) hx hb d_S_isValid_37 (by decide) (fun c_37 => ?_) (fun c_37 => ?_)
        · refine lv_iconst (v := 0) hx hb d_S_isValid_79 (by decide) ?_
          exact z_iret (wf := fun _ : Unit => (wC ad G st ++ wr)) (u := ()) hx hb hr hlocks h0 hw rfl (by rw [f_isValid, e_1, oel_some, if_neg c_12, if_neg c_30, if_pos c_37]) (Nat.le_of_ble_eq_true rfl) (Nat.le_of_ble_eq_true rfl) d_S_isValid_80
        · refine lv_aload_n hx hb d_S_isValid_40 rfl (lv_at hl 1 rfl) ?_
          obtain ⟨k_41, hk_41⟩ := z_pool (ad := ad) (G := G) (wr := wr) (st := st) hm_a_1
          refine va_get (D := G.1) (ci := 0) (v := .int (st.2.2.2.2 a_1 6)) (C := R_C) (T := T_C) (N := 7) hx hb hts in_C hown h0.1 hw.1 k_41 hk_41 rfl 6 (by decide) (hg (.fieldLink R_S 214 "SecureEntry$Certificate" "signature" "I") (by decide +kernel)) (fun _ h9 => h9) rfl d_S_isValid_41 ?_
          refine lv_aload_n hx hb d_S_isValid_44 rfl (lv_at hl 0 rfl) ?_
          refine lv_aload_n hx hb d_S_isValid_45 rfl (lv_at hl 1 rfl) ?_
          obtain ⟨k_46, hk_46⟩ := z_pool (ad := ad) (G := G) (wr := wr) (st := st) hm_a_1
          refine va_get (D := G.1) (ci := 0) (v := .int (st.2.2.2.2 a_1 0)) (C := R_C) (T := T_C) (N := 7) hx hb hts in_C hown h0.1 hw.1 k_46 hk_46 rfl 0 (by decide) (hg (.fieldLink R_S 237 "SecureEntry$Certificate" "kind" "I") (by decide +kernel)) (fun _ h9 => h9) rfl d_S_isValid_46 ?_
          refine lv_aload_n hx hb d_S_isValid_49 rfl (lv_at hl 1 rfl) ?_
          obtain ⟨k_50, hk_50⟩ := z_pool (ad := ad) (G := G) (wr := wr) (st := st) hm_a_1
          refine va_get (D := G.1) (ci := 0) (v := .int (st.2.2.2.2 a_1 1)) (C := R_C) (T := T_C) (N := 7) hx hb hts in_C hown h0.1 hw.1 k_50 hk_50 rfl 1 (by decide) (hg (.fieldLink R_S 202 "SecureEntry$Certificate" "issuer" "I") (by decide +kernel)) (fun _ h9 => h9) rfl d_S_isValid_50 ?_
          refine lv_aload_n hx hb d_S_isValid_53 rfl (lv_at hl 1 rfl) ?_
          obtain ⟨k_54, hk_54⟩ := z_pool (ad := ad) (G := G) (wr := wr) (st := st) hm_a_1
          refine va_get (D := G.1) (ci := 0) (v := .int (st.2.2.2.2 a_1 2)) (C := R_C) (T := T_C) (N := 7) hx hb hts in_C hown h0.1 hw.1 k_54 hk_54 rfl 2 (by decide) (hg (.fieldLink R_S 205 "SecureEntry$Certificate" "holder" "I") (by decide +kernel)) (fun _ h9 => h9) rfl d_S_isValid_54 ?_
          refine lv_aload_n hx hb d_S_isValid_57 rfl (lv_at hl 1 rfl) ?_
          obtain ⟨k_58, hk_58⟩ := z_pool (ad := ad) (G := G) (wr := wr) (st := st) hm_a_1
          refine va_get (D := G.1) (ci := 0) (v := .int (st.2.2.2.2 a_1 3)) (C := R_C) (T := T_C) (N := 7) hx hb hts in_C hown h0.1 hw.1 k_58 hk_58 rfl 3 (by decide) (hg (.fieldLink R_S 131 "SecureEntry$Certificate" "value" "I") (by decide +kernel)) (fun _ h9 => h9) rfl d_S_isValid_58 ?_
          refine lv_aload_n hx hb d_S_isValid_61 rfl (lv_at hl 1 rfl) ?_
          obtain ⟨k_62, hk_62⟩ := z_pool (ad := ad) (G := G) (wr := wr) (st := st) hm_a_1
          refine va_get (D := G.1) (ci := 0) (v := .int (st.2.2.2.2 a_1 4)) (C := R_C) (T := T_C) (N := 7) hx hb hts in_C hown h0.1 hw.1 k_62 hk_62 rfl 4 (by decide) (hg (.fieldLink R_S 208 "SecureEntry$Certificate" "from" "I") (by decide +kernel)) (fun _ h9 => h9) rfl d_S_isValid_62 ?_
          refine lv_aload_n hx hb d_S_isValid_65 rfl (lv_at hl 1 rfl) ?_
          obtain ⟨k_66, hk_66⟩ := z_pool (ad := ad) (G := G) (wr := wr) (st := st) hm_a_1
          refine va_get (D := G.1) (ci := 0) (v := .int (st.2.2.2.2 a_1 5)) (C := R_C) (T := T_C) (N := 7) hx hb hts in_C hown h0.1 hw.1 k_66 hk_66 rfl 5 (by decide) (hg (.fieldLink R_S 211 "SecureEntry$Certificate" "to" "I") (by decide +kernel)) (fun _ h9 => h9) rfl d_S_isValid_66 ?_
          refine z_Vi0 (As := [.int (st.2.2.2.2 a_1 0), .int (st.2.2.2.2 a_1 1), .int (st.2.2.2.2 a_1 2), .int (st.2.2.2.2 a_1 3), .int (st.2.2.2.2 a_1 4), .int (st.2.2.2.2 a_1 5)]) (v := (f_rightSignature st (st.2.2.2.2 a_1 0) (st.2.2.2.2 a_1 1) (st.2.2.2.2 a_1 2) (st.2.2.2.2 a_1 3) (st.2.2.2.2 a_1 4) (st.2.2.2.2 a_1 5))) ⟨hx, hb, hml, hown, hts⟩ (c_S_rightSignature l G ad st wr _ (st.2.2.2.2 a_1 0) (st.2.2.2.2 a_1 1) (st.2.2.2.2 a_1 2) (st.2.2.2.2 a_1 3) (st.2.2.2.2 a_1 4) (st.2.2.2.2 a_1 5) (by first | assumption | exact hI.2.2.2.1 | exact hI.2.2.2.2 | (unfold vp_in; decide) | exact Or.inr (by assumption) | exact cof_mem hI | (intro a h; cases h; assumption) | exact (hI.2.1 _ (by assumption)).1)) (cwV 6 hts gV_S_61 rfl rfl rfl (by decide +kernel) ⟨Nat.le_of_ble_eq_true rfl, Nat.le_of_ble_eq_true rfl⟩) h0 hw 0 rfl rfl rfl rfl hl.1 rfl (Nat.le_of_ble_eq_true rfl) d_S_isValid_69 ⟨Nat.le_of_ble_eq_true rfl, Nat.le_of_ble_eq_true rfl⟩ (fun H locs hw => ?_)
          refine lv_icmp_ne (tgt := 79) hx hb d_S_isValid_72 (by decide) (fun c_72 => ?_) (fun c_72 => ?_)
          · refine lv_iconst (v := 0) hx hb d_S_isValid_79 (by decide) ?_
            exact z_iret (wf := fun _ : Unit => (wC ad G st ++ wr)) (u := ()) hx hb hr hlocks h0 hw rfl (by rw [f_isValid, e_1, oel_some, if_neg c_12, if_neg c_30, if_neg c_37, if_neg c_72]) (Nat.le_of_ble_eq_true rfl) (Nat.le_of_ble_eq_true rfl) d_S_isValid_80
          · refine lv_iconst (v := 1) hx hb d_S_isValid_75 (by decide) ?_
            refine lv_goto (tgt := 80) hx hb d_S_isValid_76 (by decide) ?_
            exact z_iret (wf := fun _ : Unit => (wC ad G st ++ wr)) (u := ()) hx hb hr hlocks h0 hw rfl (by rw [f_isValid, e_1, oel_some, if_neg c_12, if_neg c_30, if_neg c_37, if_pos c_72]) (Nat.le_of_ble_eq_true rfl) (Nat.le_of_ble_eq_true rfl) d_S_isValid_80
set_option maxHeartbeats 4000000 in
set_option maxRecDepth 100000 in
theorem c_S_isValidForIdHolder (l : Launch) (G : gG) (ad : Nat → Nat) (st : CS) (wr : va_W) (sz : Nat) (p1 : Int32) (p2 : Int32) (hI : InvC st) (hp1 : tokOK p1) (hp2 : vp_in p2 4) : Met l y_S_isValidForIdHolder w_S_isValidForIdHolder { frames := 2, cells := 0, slots := 0, locals := 48 } (va_Pc [.ref (ad 0), .int p1, .int p2] (z_pre G (wC ad G st ++ wr) sz)) (z_Qi0 G (wC ad G st ++ wr) sz (wC ad G st ++ wr) (f_isValidForIdHolder st p1 p2)) 0 0 (va_A (wC ad G st ++ wr) sz) := by
  refine Met.ofW (cc := b_S_isValidForIdHolder) (maxL := 5) (ret := (some .boolean)) (by decide) rfl ?_
  intro p e s m args below meth c s₁ B hml hv
  obtain ⟨rfl, hsz, hP, hK, hD0, ham⟩ := hv
  subst hsz
  have hx := B.exec
  have hb := B.bytes
  have hr := B.returns
  have hts : ∀ w ∈ goT, w.before _ s = true := fun w h => atoms_spec (ws := w_S_isValidForIdHolder) B.pre w (List.mem_cons_of_mem _ h)
  have hg : ∀ w, goB w = true → w.before _ s = true := fun w h => hts w (goI h)
  have hown : s.vm.findClass R_S = some m.cls := findClass_of_methodNamed B.named
  have hlocks := B.notSynchronized
  have h0 : z_st G (wC ad G st ++ wr) s := ⟨hK, ham⟩
  have hw : z_wl G (wC ad G st ++ wr) s (wC ad G st ++ wr) s.heap [] := z_0 hP hD0
  have hl := lv_entry ([.ref (ad 0), .int p1, .int p2]) (n := 5) (Nat.le_of_ble_eq_true rfl)
  rw [lg_entry_eq]
  generalize (lg_sl ([.ref (ad 0), .int p1, .int p2]) ++ List.replicate (5 - (lg_sl ([.ref (ad 0), .int p1, .int p2])).length) Slot.unset).toArray = ls at hl ⊢
  have hl : lv_has ls 5 [(0, .ref (ad 0)), (1, .int p1), (2, .int p2)] := hl
  refine lv_aload_n hx hb d_S_isValidForIdHolder_0 rfl (lv_at hl 0 rfl) ?_
  refine lv_iload_n hx hb d_S_isValidForIdHolder_1 rfl (lv_at hl 1 rfl) ?_
  refine lv_iconst (v := 0) hx hb d_S_isValidForIdHolder_2 (by decide) ?_
  refine z_Vq0 (As := [.int p1, .int 0]) (v := (f_certificateOf st p1 0)) ⟨hx, hb, hml, hown, hts⟩ (c_S_certificateOf l G ad st wr _ p1 0 (by first | assumption | exact hI.2.2.2.1 | exact hI.2.2.2.2 | (unfold vp_in; decide) | exact Or.inr (by assumption) | exact cof_mem hI | (intro a h; cases h; assumption) | exact (hI.2.1 _ (by assumption)).1) (by first | assumption | exact hI.2.2.2.1 | exact hI.2.2.2.2 | (unfold vp_in; decide) | exact Or.inr (by assumption) | exact cof_mem hI | (intro a h; cases h; assumption) | exact (hI.2.1 _ (by assumption)).1)) (cwV 2 hts gV_S_76 rfl rfl rfl (by decide +kernel) ⟨Nat.le_of_ble_eq_true rfl, Nat.le_of_ble_eq_true rfl⟩) h0 hw 0 rfl rfl rfl rfl hl.1 rfl (Nat.le_of_ble_eq_true rfl) d_S_isValidForIdHolder_3 ⟨Nat.le_of_ble_eq_true rfl, Nat.le_of_ble_eq_true rfl⟩ (fun H locs hw => ?_)
  refine z_astore_n (r := (f_certificateOf st p1 0)) (lv' := [(3, va_rf (f_certificateOf st p1 0)), (0, .ref (ad 0)), (1, .int p1), (2, .int p2)]) hx hb d_S_isValidForIdHolder_6 rfl hl (by decide) rfl (fun ls hl => ?_)
  refine lv_aload_n hx hb d_S_isValidForIdHolder_7 rfl (lv_at hl 1 rfl) ?_
  refine lv_iload_n hx hb d_S_isValidForIdHolder_8 rfl (lv_at hl 2 rfl) ?_
  refine lv_iload_n hx hb d_S_isValidForIdHolder_9 rfl (lv_at hl 3 rfl) ?_
  refine z_Vq0 (As := [.int p1, .int p2]) (v := (f_certificateOf st p1 p2)) ⟨hx, hb, hml, hown, hts⟩ (c_S_certificateOf l G ad st wr _ p1 p2 (by first | assumption | exact hI.2.2.2.1 | exact hI.2.2.2.2 | (unfold vp_in; decide) | exact Or.inr (by assumption) | exact cof_mem hI | (intro a h; cases h; assumption) | exact (hI.2.1 _ (by assumption)).1) (by first | assumption | exact hI.2.2.2.1 | exact hI.2.2.2.2 | (unfold vp_in; decide) | exact Or.inr (by assumption) | exact cof_mem hI | (intro a h; cases h; assumption) | exact (hI.2.1 _ (by assumption)).1)) (cwV 2 hts gV_S_76 rfl rfl rfl (by decide +kernel) ⟨Nat.le_of_ble_eq_true rfl, Nat.le_of_ble_eq_true rfl⟩) h0 hw 0 rfl rfl rfl rfl hl.1 rfl (Nat.le_of_ble_eq_true rfl) d_S_isValidForIdHolder_10 ⟨Nat.le_of_ble_eq_true rfl, Nat.le_of_ble_eq_true rfl⟩ (fun H locs hw => ?_)
  refine z_astore (r := (f_certificateOf st p1 p2)) (lv' := [(4, va_rf (f_certificateOf st p1 p2)), (3, va_rf (f_certificateOf st p1 0)), (0, .ref (ad 0)), (1, .int p1), (2, .int p2)]) hx hb d_S_isValidForIdHolder_13 hl (by decide) (by simp [z_cat]) (fun ls hl => ?_)
  refine z_aload_n (r := (f_certificateOf st p1 0)) hx hb d_S_isValidForIdHolder_15 rfl (lv_at hl 1 rfl) ?_
  refine z_ifnull (r := (f_certificateOf st p1 0)) (tgt := 57) hx hb d_S_isValidForIdHolder_16 (by decide) (fun e_16 => ?_) (fun a_16 e_16 => ?_)
  · have hl : lv_has ls 5 [(4, va_rf (f_certificateOf st p1 p2)), (3, .null), (0, .ref (ad 0)), (1, .int p1), (2, .int p2)] := by rw [e_16] at hl; exact hl
    refine lv_iconst (v := 0) hx hb d_S_isValidForIdHolder_57 (by decide) ?_
    exact z_iret (wf := fun _ : Unit => (wC ad G st ++ wr)) (u := ()) hx hb hr hlocks h0 hw rfl (by rw [f_isValidForIdHolder, e_16, oel_none]) (Nat.le_of_ble_eq_true rfl) (Nat.le_of_ble_eq_true rfl) d_S_isValidForIdHolder_58
  · have hl : lv_has ls 5 [(4, va_rf (f_certificateOf st p1 p2)), (3, .ref a_16), (0, .ref (ad 0)), (1, .int p1), (2, .int p2)] := by rw [e_16] at hl; exact hl
    have hm_a_16 : a_16 ∈ st.2.2.2.1 := cof_mem hI _ e_16
    refine z_aload (r := (f_certificateOf st p1 p2)) hx hb d_S_isValidForIdHolder_19 (lv_at hl 0 rfl) ?_
    refine z_ifnull (r := (f_certificateOf st p1 p2)) (tgt := 57) hx hb d_S_isValidForIdHolder_21 (by decide) (fun e_21 => ?_) (fun a_21 e_21 => ?_)
    · have hl : lv_has ls 5 [(4, .null), (3, .ref a_16), (0, .ref (ad 0)), (1, .int p1), (2, .int p2)] := by rw [e_21] at hl; exact hl
      refine lv_iconst (v := 0) hx hb d_S_isValidForIdHolder_57 (by decide) ?_
      exact z_iret (wf := fun _ : Unit => (wC ad G st ++ wr)) (u := ()) hx hb hr hlocks h0 hw rfl (by rw [f_isValidForIdHolder, e_16, oel_some, e_21, oel_none]) (Nat.le_of_ble_eq_true rfl) (Nat.le_of_ble_eq_true rfl) d_S_isValidForIdHolder_58
    · have hl : lv_has ls 5 [(4, .ref a_21), (3, .ref a_16), (0, .ref (ad 0)), (1, .int p1), (2, .int p2)] := by rw [e_21] at hl; exact hl
      have hm_a_21 : a_21 ∈ st.2.2.2.1 := cof_mem hI _ e_21
      refine lv_aload_n hx hb d_S_isValidForIdHolder_24 rfl (lv_at hl 1 rfl) ?_
      obtain ⟨k_25, hk_25⟩ := z_pool (ad := ad) (G := G) (wr := wr) (st := st) hm_a_16
      refine va_get (D := G.1) (ci := 0) (v := .int (st.2.2.2.2 a_16 2)) (C := R_C) (T := T_C) (N := 7) hx hb hts in_C hown h0.1 hw.1 k_25 hk_25 rfl 2 (by decide) (hg (.fieldLink R_S 205 "SecureEntry$Certificate" "holder" "I") (by decide +kernel)) (fun _ h9 => h9) rfl d_S_isValidForIdHolder_25 ?_
      refine lv_aload hx hb d_S_isValidForIdHolder_28 (lv_at hl 0 rfl) ?_
      obtain ⟨k_30, hk_30⟩ := z_pool (ad := ad) (G := G) (wr := wr) (st := st) hm_a_21
      refine va_get (D := G.1) (ci := 0) (v := .int (st.2.2.2.2 a_21 2)) (C := R_C) (T := T_C) (N := 7) hx hb hts in_C hown h0.1 hw.1 k_30 hk_30 rfl 2 (by decide) (hg (.fieldLink R_S 205 "SecureEntry$Certificate" "holder" "I") (by decide +kernel)) (fun _ h9 => h9) rfl d_S_isValidForIdHolder_30 ?_
      refine lv_icmp_ne (tgt := 57) hx hb d_S_isValidForIdHolder_33 (by decide) (fun c_33 => ?_) (fun c_33 => ?_)
      · refine lv_iconst (v := 0) hx hb d_S_isValidForIdHolder_57 (by decide) ?_
        exact z_iret (wf := fun _ : Unit => (wC ad G st ++ wr)) (u := ()) hx hb hr hlocks h0 hw rfl (by rw [f_isValidForIdHolder, e_16, oel_some, e_21, oel_some, if_neg c_33]) (Nat.le_of_ble_eq_true rfl) (Nat.le_of_ble_eq_true rfl) d_S_isValidForIdHolder_58
      · refine lv_aload_n hx hb d_S_isValidForIdHolder_36 rfl (lv_at hl 2 rfl) ?_
        refine lv_aload_n hx hb d_S_isValidForIdHolder_37 rfl (lv_at hl 1 rfl) ?_
        refine z_Vi0 (As := [.ref a_16]) (v := (f_isValid st (some a_16))) ⟨hx, hb, hml, hown, hts⟩ (c_S_isValid l G ad st wr _ (some a_16) (by first | assumption | exact hI.2.2.2.1 | exact hI.2.2.2.2 | (unfold vp_in; decide) | exact Or.inr (by assumption) | exact cof_mem hI | (intro a h; cases h; assumption) | exact (hI.2.1 _ (by assumption)).1) (by first | assumption | exact hI.2.2.2.1 | exact hI.2.2.2.2 | (unfold vp_in; decide) | exact Or.inr (by assumption) | exact cof_mem hI | (intro a h; cases h; assumption) | exact (hI.2.1 _ (by assumption)).1)) (cwV 1 hts gV_S_217 rfl rfl rfl (by decide +kernel) ⟨Nat.le_of_ble_eq_true rfl, Nat.le_of_ble_eq_true rfl⟩) h0 hw 0 rfl rfl rfl rfl hl.1 rfl (Nat.le_of_ble_eq_true rfl) d_S_isValidForIdHolder_38 ⟨Nat.le_of_ble_eq_true rfl, Nat.le_of_ble_eq_true rfl⟩ (fun H locs hw => ?_)
        refine lv_if_eq (tgt := 57) hx hb d_S_isValidForIdHolder_41 (by decide) (fun c_41 => ?_) (fun c_41 => ?_)
        · refine lv_iconst (v := 0) hx hb d_S_isValidForIdHolder_57 (by decide) ?_
          exact z_iret (wf := fun _ : Unit => (wC ad G st ++ wr)) (u := ()) hx hb hr hlocks h0 hw rfl (by rw [f_isValidForIdHolder, e_16, oel_some, e_21, oel_some, if_pos c_33, if_pos c_41]) (Nat.le_of_ble_eq_true rfl) (Nat.le_of_ble_eq_true rfl) d_S_isValidForIdHolder_58
        · refine lv_aload_n hx hb d_S_isValidForIdHolder_44 rfl (lv_at hl 2 rfl) ?_
          refine lv_aload hx hb d_S_isValidForIdHolder_45 (lv_at hl 0 rfl) ?_
          refine z_Vi0 (As := [.ref a_21]) (v := (f_isValid st (some a_21))) ⟨hx, hb, hml, hown, hts⟩ (c_S_isValid l G ad st wr _ (some a_21) (by first | assumption | exact hI.2.2.2.1 | exact hI.2.2.2.2 | (unfold vp_in; decide) | exact Or.inr (by assumption) | exact cof_mem hI | (intro a h; cases h; assumption) | exact (hI.2.1 _ (by assumption)).1) (by first | assumption | exact hI.2.2.2.1 | exact hI.2.2.2.2 | (unfold vp_in; decide) | exact Or.inr (by assumption) | exact cof_mem hI | (intro a h; cases h; assumption) | exact (hI.2.1 _ (by assumption)).1)) (cwV 1 hts gV_S_217 rfl rfl rfl (by decide +kernel) ⟨Nat.le_of_ble_eq_true rfl, Nat.le_of_ble_eq_true rfl⟩) h0 hw 0 rfl rfl rfl rfl hl.1 rfl (Nat.le_of_ble_eq_true rfl) d_S_isValidForIdHolder_47 ⟨Nat.le_of_ble_eq_true rfl, Nat.le_of_ble_eq_true rfl⟩ (fun H locs hw => ?_)
          refine lv_if_eq (tgt := 57) hx hb d_S_isValidForIdHolder_50 (by decide) (fun c_50 => ?_) (fun c_50 => ?_)
          · refine lv_iconst (v := 0) hx hb d_S_isValidForIdHolder_57 (by decide) ?_
            exact z_iret (wf := fun _ : Unit => (wC ad G st ++ wr)) (u := ()) hx hb hr hlocks h0 hw rfl (by rw [f_isValidForIdHolder, e_16, oel_some, e_21, oel_some, if_pos c_33, if_neg c_41, if_pos c_50]) (Nat.le_of_ble_eq_true rfl) (Nat.le_of_ble_eq_true rfl) d_S_isValidForIdHolder_58
          · refine lv_iconst (v := 1) hx hb d_S_isValidForIdHolder_53 (by decide) ?_
            refine lv_goto (tgt := 58) hx hb d_S_isValidForIdHolder_54 (by decide) ?_
            exact z_iret (wf := fun _ : Unit => (wC ad G st ++ wr)) (u := ()) hx hb hr hlocks h0 hw rfl (by rw [f_isValidForIdHolder, e_16, oel_some, e_21, oel_some, if_pos c_33, if_neg c_41, if_neg c_50]) (Nat.le_of_ble_eq_true rfl) (Nat.le_of_ble_eq_true rfl) d_S_isValidForIdHolder_58
set_option maxHeartbeats 4000000 in
set_option maxRecDepth 100000 in
theorem c_S_isGood (l : Launch) (G : gG) (ad : Nat → Nat) (st : CS) (wr : va_W) (sz : Nat) (p1 : Int32) (hI : InvC st) (hp1 : tokOK p1) : Met l y_S_isGood w_S_isGood { frames := 3, cells := 0, slots := 0, locals := 72 } (va_Pc [.ref (ad 0), .int p1] (z_pre G (wC ad G st ++ wr) sz)) (z_Qi0 G (wC ad G st ++ wr) sz (wC ad G st ++ wr) (f_isGood st p1)) 0 0 (va_A (wC ad G st ++ wr) sz) := by
  refine Met.ofW (cc := b_S_isGood) (maxL := 2) (ret := (some .boolean)) (by decide) rfl ?_
  intro p e s m args below meth c s₁ B hml hv
  obtain ⟨rfl, hsz, hP, hK, hD0, ham⟩ := hv
  subst hsz
  have hx := B.exec
  have hb := B.bytes
  have hr := B.returns
  have hts : ∀ w ∈ goT, w.before _ s = true := fun w h => atoms_spec (ws := w_S_isGood) B.pre w (List.mem_cons_of_mem _ h)
  have hg : ∀ w, goB w = true → w.before _ s = true := fun w h => hts w (goI h)
  have hown : s.vm.findClass R_S = some m.cls := findClass_of_methodNamed B.named
  have hlocks := B.notSynchronized
  have h0 : z_st G (wC ad G st ++ wr) s := ⟨hK, ham⟩
  have hw : z_wl G (wC ad G st ++ wr) s (wC ad G st ++ wr) s.heap [] := z_0 hP hD0
  have hl := lv_entry ([.ref (ad 0), .int p1]) (n := 2) (Nat.le_of_ble_eq_true rfl)
  rw [lg_entry_eq]
  generalize (lg_sl ([.ref (ad 0), .int p1]) ++ List.replicate (2 - (lg_sl ([.ref (ad 0), .int p1])).length) Slot.unset).toArray = ls at hl ⊢
  have hl : lv_has ls 2 [(0, .ref (ad 0)), (1, .int p1)] := hl
  refine lv_aload_n hx hb d_S_isGood_0 rfl (lv_at hl 0 rfl) ?_
  refine lv_iload_n hx hb d_S_isGood_1 rfl (lv_at hl 1 rfl) ?_
  refine lv_iconst (v := 1) hx hb d_S_isGood_2 (by decide) ?_
  refine z_Vi0 (As := [.int p1, .int 1]) (v := (f_isValidForIdHolder st p1 1)) ⟨hx, hb, hml, hown, hts⟩ (c_S_isValidForIdHolder l G ad st wr _ p1 1 (by first | assumption | exact hI.2.2.2.1 | exact hI.2.2.2.2 | (unfold vp_in; decide) | exact Or.inr (by assumption) | exact cof_mem hI | (intro a h; cases h; assumption) | exact (hI.2.1 _ (by assumption)).1) (by first | assumption | exact hI.2.2.2.1 | exact hI.2.2.2.2 | (unfold vp_in; decide) | exact Or.inr (by assumption) | exact cof_mem hI | (intro a h; cases h; assumption) | exact (hI.2.1 _ (by assumption)).1) (by first | assumption | exact hI.2.2.2.1 | exact hI.2.2.2.2 | (unfold vp_in; decide) | exact Or.inr (by assumption) | exact cof_mem hI | (intro a h; cases h; assumption) | exact (hI.2.1 _ (by assumption)).1)) (cwV 2 hts gV_S_243 rfl rfl rfl (by decide +kernel) ⟨Nat.le_of_ble_eq_true rfl, Nat.le_of_ble_eq_true rfl⟩) h0 hw 0 rfl rfl rfl rfl hl.1 rfl (Nat.le_of_ble_eq_true rfl) d_S_isGood_3 ⟨Nat.le_of_ble_eq_true rfl, Nat.le_of_ble_eq_true rfl⟩ (fun H locs hw => ?_)
  refine lv_if_eq (tgt := 22) hx hb d_S_isGood_6 (by decide) (fun c_6 => ?_) (fun c_6 => ?_)
  · refine lv_iconst (v := 0) hx hb d_S_isGood_22 (by decide) ?_
    exact z_iret (wf := fun _ : Unit => (wC ad G st ++ wr)) (u := ()) hx hb hr hlocks h0 hw rfl (by rw [f_isGood, if_pos c_6]) (Nat.le_of_ble_eq_true rfl) (Nat.le_of_ble_eq_true rfl) d_S_isGood_23
  · refine lv_aload_n hx hb d_S_isGood_9 rfl (lv_at hl 0 rfl) ?_
    refine lv_iload_n hx hb d_S_isGood_10 rfl (lv_at hl 1 rfl) ?_
    refine lv_iconst (v := 2) hx hb d_S_isGood_11 (by decide) ?_
    refine z_Vi0 (As := [.int p1, .int 2]) (v := (f_isValidForIdHolder st p1 2)) ⟨hx, hb, hml, hown, hts⟩ (c_S_isValidForIdHolder l G ad st wr _ p1 2 (by first | assumption | exact hI.2.2.2.1 | exact hI.2.2.2.2 | (unfold vp_in; decide) | exact Or.inr (by assumption) | exact cof_mem hI | (intro a h; cases h; assumption) | exact (hI.2.1 _ (by assumption)).1) (by first | assumption | exact hI.2.2.2.1 | exact hI.2.2.2.2 | (unfold vp_in; decide) | exact Or.inr (by assumption) | exact cof_mem hI | (intro a h; cases h; assumption) | exact (hI.2.1 _ (by assumption)).1) (by first | assumption | exact hI.2.2.2.1 | exact hI.2.2.2.2 | (unfold vp_in; decide) | exact Or.inr (by assumption) | exact cof_mem hI | (intro a h; cases h; assumption) | exact (hI.2.1 _ (by assumption)).1)) (cwV 2 hts gV_S_243 rfl rfl rfl (by decide +kernel) ⟨Nat.le_of_ble_eq_true rfl, Nat.le_of_ble_eq_true rfl⟩) h0 hw 0 rfl rfl rfl rfl hl.1 rfl (Nat.le_of_ble_eq_true rfl) d_S_isGood_12 ⟨Nat.le_of_ble_eq_true rfl, Nat.le_of_ble_eq_true rfl⟩ (fun H locs hw => ?_)
    refine lv_if_eq (tgt := 22) hx hb d_S_isGood_15 (by decide) (fun c_15 => ?_) (fun c_15 => ?_)
    · refine lv_iconst (v := 0) hx hb d_S_isGood_22 (by decide) ?_
      exact z_iret (wf := fun _ : Unit => (wC ad G st ++ wr)) (u := ()) hx hb hr hlocks h0 hw rfl (by rw [f_isGood, if_neg c_6, if_pos c_15]) (Nat.le_of_ble_eq_true rfl) (Nat.le_of_ble_eq_true rfl) d_S_isGood_23
    · refine lv_iconst (v := 1) hx hb d_S_isGood_18 (by decide) ?_
      refine lv_goto (tgt := 23) hx hb d_S_isGood_19 (by decide) ?_
      exact z_iret (wf := fun _ : Unit => (wC ad G st ++ wr)) (u := ()) hx hb hr hlocks h0 hw rfl (by rw [f_isGood, if_neg c_6, if_neg c_15]) (Nat.le_of_ble_eq_true rfl) (Nat.le_of_ble_eq_true rfl) d_S_isGood_23
set_option maxHeartbeats 4000000 in
set_option maxRecDepth 100000 in
theorem c_S_isAuthorised (l : Launch) (G : gG) (ad : Nat → Nat) (st : CS) (wr : va_W) (sz : Nat) (p1 : Int32) (hI : InvC st) (hp1 : tokOK p1) : Met l y_S_isAuthorised w_S_isAuthorised { frames := 3, cells := 0, slots := 0, locals := 72 } (va_Pc [.ref (ad 0), .int p1] (z_pre G (wC ad G st ++ wr) sz)) (z_Qi0 G (wC ad G st ++ wr) sz (wC ad G st ++ wr) (f_isAuthorised st p1)) 0 0 (va_A (wC ad G st ++ wr) sz) := by
  refine Met.ofW (cc := b_S_isAuthorised) (maxL := 2) (ret := (some .boolean)) (by decide) rfl ?_
  intro p e s m args below meth c s₁ B hml hv
  obtain ⟨rfl, hsz, hP, hK, hD0, ham⟩ := hv
  subst hsz
  have hx := B.exec
  have hb := B.bytes
  have hr := B.returns
  have hts : ∀ w ∈ goT, w.before _ s = true := fun w h => atoms_spec (ws := w_S_isAuthorised) B.pre w (List.mem_cons_of_mem _ h)
  have hg : ∀ w, goB w = true → w.before _ s = true := fun w h => hts w (goI h)
  have hown : s.vm.findClass R_S = some m.cls := findClass_of_methodNamed B.named
  have hlocks := B.notSynchronized
  have h0 : z_st G (wC ad G st ++ wr) s := ⟨hK, ham⟩
  have hw : z_wl G (wC ad G st ++ wr) s (wC ad G st ++ wr) s.heap [] := z_0 hP hD0
  have hl := lv_entry ([.ref (ad 0), .int p1]) (n := 2) (Nat.le_of_ble_eq_true rfl)
  rw [lg_entry_eq]
  generalize (lg_sl ([.ref (ad 0), .int p1]) ++ List.replicate (2 - (lg_sl ([.ref (ad 0), .int p1])).length) Slot.unset).toArray = ls at hl ⊢
  have hl : lv_has ls 2 [(0, .ref (ad 0)), (1, .int p1)] := hl
  refine lv_aload_n hx hb d_S_isAuthorised_0 rfl (lv_at hl 0 rfl) ?_
  refine lv_iload_n hx hb d_S_isAuthorised_1 rfl (lv_at hl 1 rfl) ?_
  refine lv_iconst (v := 3) hx hb d_S_isAuthorised_2 (by decide) ?_
  refine z_Vi0 (As := [.int p1, .int 3]) (v := (f_isValidForIdHolder st p1 3)) ⟨hx, hb, hml, hown, hts⟩ (c_S_isValidForIdHolder l G ad st wr _ p1 3 (by first | assumption | exact hI.2.2.2.1 | exact hI.2.2.2.2 | (unfold vp_in; decide) | exact Or.inr (by assumption) | exact cof_mem hI | (intro a h; cases h; assumption) | exact (hI.2.1 _ (by assumption)).1) (by first | assumption | exact hI.2.2.2.1 | exact hI.2.2.2.2 | (unfold vp_in; decide) | exact Or.inr (by assumption) | exact cof_mem hI | (intro a h; cases h; assumption) | exact (hI.2.1 _ (by assumption)).1) (by first | assumption | exact hI.2.2.2.1 | exact hI.2.2.2.2 | (unfold vp_in; decide) | exact Or.inr (by assumption) | exact cof_mem hI | (intro a h; cases h; assumption) | exact (hI.2.1 _ (by assumption)).1)) (cwV 2 hts gV_S_243 rfl rfl rfl (by decide +kernel) ⟨Nat.le_of_ble_eq_true rfl, Nat.le_of_ble_eq_true rfl⟩) h0 hw 0 rfl rfl rfl rfl hl.1 rfl (Nat.le_of_ble_eq_true rfl) d_S_isAuthorised_3 ⟨Nat.le_of_ble_eq_true rfl, Nat.le_of_ble_eq_true rfl⟩ (fun H locs hw => ?_)
  exact z_iret (wf := fun _ : Unit => (wC ad G st ++ wr)) (u := ()) hx hb hr hlocks h0 hw (z_nb vfh_01) (by rw [f_isAuthorised]) (Nat.le_of_ble_eq_true rfl) (Nat.le_of_ble_eq_true rfl) d_S_isAuthorised_6
set_option maxHeartbeats 4000000 in
set_option maxRecDepth 100000 in
theorem c_S_authorisedRole (l : Launch) (G : gG) (ad : Nat → Nat) (st : CS) (wr : va_W) (sz : Nat) (p1 : Int32) (hI : InvC st) (hp1 : tokOK p1) : Met l y_S_authorisedRole w_S_authorisedRole { frames := 1, cells := 0, slots := 0, locals := 22 } (va_Pc [.ref (ad 0), .int p1] (z_pre G (wC ad G st ++ wr) sz)) (z_Qi0 G (wC ad G st ++ wr) sz (wC ad G st ++ wr) (f_authorisedRole st p1)) 0 0 (va_A (wC ad G st ++ wr) sz) := by
  refine Met.ofW (cc := b_S_authorisedRole) (maxL := 3) (ret := (some .int)) (by decide) rfl ?_
  intro p e s m args below meth c s₁ B hml hv
  obtain ⟨rfl, hsz, hP, hK, hD0, ham⟩ := hv
  subst hsz
  have hx := B.exec
  have hb := B.bytes
  have hr := B.returns
  have hts : ∀ w ∈ goT, w.before _ s = true := fun w h => atoms_spec (ws := w_S_authorisedRole) B.pre w (List.mem_cons_of_mem _ h)
  have hg : ∀ w, goB w = true → w.before _ s = true := fun w h => hts w (goI h)
  have hown : s.vm.findClass R_S = some m.cls := findClass_of_methodNamed B.named
  have hlocks := B.notSynchronized
  have h0 : z_st G (wC ad G st ++ wr) s := ⟨hK, ham⟩
  have hw : z_wl G (wC ad G st ++ wr) s (wC ad G st ++ wr) s.heap [] := z_0 hP hD0
  have hl := lv_entry ([.ref (ad 0), .int p1]) (n := 3) (Nat.le_of_ble_eq_true rfl)
  rw [lg_entry_eq]
  generalize (lg_sl ([.ref (ad 0), .int p1]) ++ List.replicate (3 - (lg_sl ([.ref (ad 0), .int p1])).length) Slot.unset).toArray = ls at hl ⊢
  have hl : lv_has ls 3 [(0, .ref (ad 0)), (1, .int p1)] := hl
  refine lv_aload_n hx hb d_S_authorisedRole_0 rfl (lv_at hl 0 rfl) ?_
  refine lv_iload_n hx hb d_S_authorisedRole_1 rfl (lv_at hl 1 rfl) ?_
  refine lv_iconst (v := 3) hx hb d_S_authorisedRole_2 (by decide) ?_
  refine z_Vq0 (As := [.int p1, .int 3]) (v := (f_certificateOf st p1 3)) ⟨hx, hb, hml, hown, hts⟩ (c_S_certificateOf l G ad st wr _ p1 3 (by first | assumption | exact hI.2.2.2.1 | exact hI.2.2.2.2 | (unfold vp_in; decide) | exact Or.inr (by assumption) | exact cof_mem hI | (intro a h; cases h; assumption) | exact (hI.2.1 _ (by assumption)).1) (by first | assumption | exact hI.2.2.2.1 | exact hI.2.2.2.2 | (unfold vp_in; decide) | exact Or.inr (by assumption) | exact cof_mem hI | (intro a h; cases h; assumption) | exact (hI.2.1 _ (by assumption)).1)) (cwV 2 hts gV_S_76 rfl rfl rfl (by decide +kernel) ⟨Nat.le_of_ble_eq_true rfl, Nat.le_of_ble_eq_true rfl⟩) h0 hw 0 rfl rfl rfl rfl hl.1 rfl (Nat.le_of_ble_eq_true rfl) d_S_authorisedRole_3 ⟨Nat.le_of_ble_eq_true rfl, Nat.le_of_ble_eq_true rfl⟩ (fun H locs hw => ?_)
  refine z_astore_n (r := (f_certificateOf st p1 3)) (lv' := [(2, va_rf (f_certificateOf st p1 3)), (0, .ref (ad 0)), (1, .int p1)]) hx hb d_S_authorisedRole_6 rfl hl (by decide) rfl (fun ls hl => ?_)
  refine z_aload_n (r := (f_certificateOf st p1 3)) hx hb d_S_authorisedRole_7 rfl (lv_at hl 0 rfl) ?_
  refine z_ifnonnull (r := (f_certificateOf st p1 3)) (tgt := 15) hx hb d_S_authorisedRole_8 (by decide) (fun e_8 => ?_) (fun a_8 e_8 => ?_)
  · have hl : lv_has ls 3 [(2, .null), (0, .ref (ad 0)), (1, .int p1)] := by rw [e_8] at hl; exact hl
    refine lv_iconst (v := 0) hx hb d_S_authorisedRole_11 (by decide) ?_
    refine lv_goto (tgt := 19) hx hb d_S_authorisedRole_12 (by decide) ?_
    exact z_iret (wf := fun _ : Unit => (wC ad G st ++ wr)) (u := ()) hx hb hr hlocks h0 hw rfl (by rw [f_authorisedRole, e_8, oel_none]) (Nat.le_of_ble_eq_true rfl) (Nat.le_of_ble_eq_true rfl) d_S_authorisedRole_19
  · have hl : lv_has ls 3 [(2, .ref a_8), (0, .ref (ad 0)), (1, .int p1)] := by rw [e_8] at hl; exact hl
    have hm_a_8 : a_8 ∈ st.2.2.2.1 := cof_mem hI _ e_8
    refine lv_aload_n hx hb d_S_authorisedRole_15 rfl (lv_at hl 0 rfl) ?_
    obtain ⟨k_16, hk_16⟩ := z_pool (ad := ad) (G := G) (wr := wr) (st := st) hm_a_8
    refine z_Vi0 (As := []) (v := (f_role (st.2.2.2.2 a_8))) ⟨hx, hb, hml, hown, hts⟩ (c_C_role l G (wC ad G st ++ wr) _ a_8 k_16 (st.2.2.2.2 a_8) hk_16) (cwV 0 hts gV_S_246 rfl rfl rfl (by decide +kernel) ⟨Nat.le_of_ble_eq_true rfl, Nat.le_of_ble_eq_true rfl⟩) h0 hw k_16 hk_16 rfl rfl rfl hl.1 rfl (Nat.le_of_ble_eq_true rfl) d_S_authorisedRole_16 ⟨Nat.le_of_ble_eq_true rfl, Nat.le_of_ble_eq_true rfl⟩ (fun H locs hw => ?_)
    exact z_iret (wf := fun _ : Unit => (wC ad G st ++ wr)) (u := ()) hx hb hr hlocks h0 hw rfl (by rw [f_authorisedRole, e_8, oel_some]) (Nat.le_of_ble_eq_true rfl) (Nat.le_of_ble_eq_true rfl) d_S_authorisedRole_19
end CON
end
section
section CON
set_option maxHeartbeats 4000000 in
set_option maxRecDepth 100000 in
theorem c_S_isUnlocked (l : Launch) (G : gG) (ad : Nat → Nat) (st : CS) (wr : va_W) (sz : Nat)   : Met l y_S_isUnlocked w_S_isUnlocked { frames := 0, cells := 0, slots := 0, locals := 0 } (va_Pc [.ref (ad 0)] (z_pre G (wC ad G st ++ wr) sz)) (z_Qi0 G (wC ad G st ++ wr) sz (wC ad G st ++ wr) (f_isUnlocked st)) 0 0 (va_A (wC ad G st ++ wr) sz) := by
  refine Met.ofW (cc := b_S_isUnlocked) (maxL := 1) (ret := (some .boolean)) (by decide) rfl ?_
  intro p e s m args below meth c s₁ B hml hv
  obtain ⟨rfl, hsz, hP, hK, hD0, ham⟩ := hv
  subst hsz
  have hx := B.exec
  have hb := B.bytes
  have hr := B.returns
  have hts : ∀ w ∈ goT, w.before _ s = true := fun w h => atoms_spec (ws := w_S_isUnlocked) B.pre w (List.mem_cons_of_mem _ h)
  have hg : ∀ w, goB w = true → w.before _ s = true := fun w h => hts w (goI h)
  have hown : s.vm.findClass R_S = some m.cls := findClass_of_methodNamed B.named
  have hlocks := B.notSynchronized
  have h0 : z_st G (wC ad G st ++ wr) s := ⟨hK, ham⟩
  have hw : z_wl G (wC ad G st ++ wr) s (wC ad G st ++ wr) s.heap [] := z_0 hP hD0
  have hl := lv_entry ([.ref (ad 0)]) (n := 1) (Nat.le_of_ble_eq_true rfl)
  rw [lg_entry_eq]
  generalize (lg_sl ([.ref (ad 0)]) ++ List.replicate (1 - (lg_sl ([.ref (ad 0)])).length) Slot.unset).toArray = ls at hl ⊢
  have hl : lv_has ls 1 [(0, .ref (ad 0))] := hl
  refine lv_aload_n hx hb d_S_isUnlocked_0 rfl (lv_at hl 0 rfl) ?_
  refine va_get (D := G.1) (ci := 2) (v := .int (st.1 4)) (C := R_S) (T := T_S) (N := 14) hx hb hts in_S hown h0.1 hw.1 0 rfl rfl 4 (by decide) (hg (.fieldLink R_S 101 "SecureEntry" "time" "I") (by decide +kernel)) (fun _ h9 => h9) rfl d_S_isUnlocked_1 ?_
  refine lv_aload_n hx hb d_S_isUnlocked_4 rfl (lv_at hl 0 rfl) ?_
  refine va_get (D := G.1) (ci := 2) (v := .int (st.1 11)) (C := R_S) (T := T_S) (N := 14) hx hb hts in_S hown h0.1 hw.1 0 rfl rfl 11 (by decide) (hg (.fieldLink R_S 161 "SecureEntry" "unlockedUntil" "I") (by decide +kernel)) (fun _ h9 => h9) rfl d_S_isUnlocked_5 ?_
  refine lv_icmp_ge (tgt := 15) hx hb d_S_isUnlocked_8 (by decide) (fun c_8 => ?_) (fun c_8 => ?_)
  · refine lv_iconst (v := 0) hx hb d_S_isUnlocked_15 (by decide) ?_
    exact z_iret (wf := fun _ : Unit => (wC ad G st ++ wr)) (u := ()) hx hb hr hlocks h0 hw rfl (by rw [f_isUnlocked, if_pos c_8]) (Nat.le_of_ble_eq_true rfl) (Nat.le_of_ble_eq_true rfl) d_S_isUnlocked_16
  · refine lv_iconst (v := 1) hx hb d_S_isUnlocked_11 (by decide) ?_
    refine lv_goto (tgt := 16) hx hb d_S_isUnlocked_12 (by decide) ?_
    exact z_iret (wf := fun _ : Unit => (wC ad G st ++ wr)) (u := ()) hx hb hr hlocks h0 hw rfl (by rw [f_isUnlocked, if_neg c_8]) (Nat.le_of_ble_eq_true rfl) (Nat.le_of_ble_eq_true rfl) d_S_isUnlocked_16
set_option maxHeartbeats 4000000 in
set_option maxRecDepth 100000 in
theorem c_S_isAlarmSounding (l : Launch) (G : gG) (ad : Nat → Nat) (st : CS) (wr : va_W) (sz : Nat)   : Met l y_S_isAlarmSounding w_S_isAlarmSounding { frames := 1, cells := 0, slots := 0, locals := 20 } (va_Pc [.ref (ad 0)] (z_pre G (wC ad G st ++ wr) sz)) (z_Qi0 G (wC ad G st ++ wr) sz (wC ad G st ++ wr) (f_isAlarmSounding st)) 0 0 (va_A (wC ad G st ++ wr) sz) := by
  refine Met.ofW (cc := b_S_isAlarmSounding) (maxL := 1) (ret := (some .boolean)) (by decide) rfl ?_
  intro p e s m args below meth c s₁ B hml hv
  obtain ⟨rfl, hsz, hP, hK, hD0, ham⟩ := hv
  subst hsz
  have hx := B.exec
  have hb := B.bytes
  have hr := B.returns
  have hts : ∀ w ∈ goT, w.before _ s = true := fun w h => atoms_spec (ws := w_S_isAlarmSounding) B.pre w (List.mem_cons_of_mem _ h)
  have hg : ∀ w, goB w = true → w.before _ s = true := fun w h => hts w (goI h)
  have hown : s.vm.findClass R_S = some m.cls := findClass_of_methodNamed B.named
  have hlocks := B.notSynchronized
  have h0 : z_st G (wC ad G st ++ wr) s := ⟨hK, ham⟩
  have hw : z_wl G (wC ad G st ++ wr) s (wC ad G st ++ wr) s.heap [] := z_0 hP hD0
  have hl := lv_entry ([.ref (ad 0)]) (n := 1) (Nat.le_of_ble_eq_true rfl)
  rw [lg_entry_eq]
  generalize (lg_sl ([.ref (ad 0)]) ++ List.replicate (1 - (lg_sl ([.ref (ad 0)])).length) Slot.unset).toArray = ls at hl ⊢
  have hl : lv_has ls 1 [(0, .ref (ad 0))] := hl
  refine lv_aload_n hx hb d_S_isAlarmSounding_0 rfl (lv_at hl 0 rfl) ?_
  refine va_get (D := G.1) (ci := 2) (v := .int (st.1 13)) (C := R_S) (T := T_S) (N := 14) hx hb hts in_S hown h0.1 hw.1 0 rfl rfl 13 (by decide) (hg (.fieldLink R_S 173 "SecureEntry" "doorOpen" "Z") (by decide +kernel)) (fun _ h9 => h9) rfl d_S_isAlarmSounding_1 ?_
  refine lv_if_eq (tgt := 29) hx hb d_S_isAlarmSounding_4 (by decide) (fun c_4 => ?_) (fun c_4 => ?_)
  · refine lv_iconst (v := 0) hx hb d_S_isAlarmSounding_29 (by decide) ?_
    exact z_iret (wf := fun _ : Unit => (wC ad G st ++ wr)) (u := ()) hx hb hr hlocks h0 hw rfl (by rw [f_isAlarmSounding, if_pos c_4]) (Nat.le_of_ble_eq_true rfl) (Nat.le_of_ble_eq_true rfl) d_S_isAlarmSounding_30
  · refine lv_aload_n hx hb d_S_isAlarmSounding_7 rfl (lv_at hl 0 rfl) ?_
    refine z_Vi0 (As := []) (v := (f_isUnlocked st)) ⟨hx, hb, hml, hown, hts⟩ (c_S_isUnlocked l G ad st wr _) (cwV 0 hts gV_S_176 rfl rfl rfl (by decide +kernel) ⟨Nat.le_of_ble_eq_true rfl, Nat.le_of_ble_eq_true rfl⟩) h0 hw 0 rfl rfl rfl rfl hl.1 rfl (Nat.le_of_ble_eq_true rfl) d_S_isAlarmSounding_8 ⟨Nat.le_of_ble_eq_true rfl, Nat.le_of_ble_eq_true rfl⟩ (fun H locs hw => ?_)
    refine lv_if_ne (tgt := 29) hx hb d_S_isAlarmSounding_11 (by decide) (fun c_11 => ?_) (fun c_11 => ?_)
    · refine lv_iconst (v := 0) hx hb d_S_isAlarmSounding_29 (by decide) ?_
      exact z_iret (wf := fun _ : Unit => (wC ad G st ++ wr)) (u := ()) hx hb hr hlocks h0 hw rfl (by rw [f_isAlarmSounding, if_neg c_4, if_neg c_11]) (Nat.le_of_ble_eq_true rfl) (Nat.le_of_ble_eq_true rfl) d_S_isAlarmSounding_30
    · refine lv_aload_n hx hb d_S_isAlarmSounding_14 rfl (lv_at hl 0 rfl) ?_
      refine va_get (D := G.1) (ci := 2) (v := .int (st.1 4)) (C := R_S) (T := T_S) (N := 14) hx hb hts in_S hown h0.1 hw.1 0 rfl rfl 4 (by decide) (hg (.fieldLink R_S 101 "SecureEntry" "time" "I") (by decide +kernel)) (fun _ h9 => h9) rfl d_S_isAlarmSounding_15 ?_
      refine lv_aload_n hx hb d_S_isAlarmSounding_18 rfl (lv_at hl 0 rfl) ?_
      refine va_get (D := G.1) (ci := 2) (v := .int (st.1 12)) (C := R_S) (T := T_S) (N := 14) hx hb hts in_S hown h0.1 hw.1 0 rfl rfl 12 (by decide) (hg (.fieldLink R_S 180 "SecureEntry" "alarmTime" "I") (by decide +kernel)) (fun _ h9 => h9) rfl d_S_isAlarmSounding_19 ?_
      refine lv_icmp_lt (tgt := 29) hx hb d_S_isAlarmSounding_22 (by decide) (fun c_22 => ?_) (fun c_22 => ?_)
      · refine lv_iconst (v := 0) hx hb d_S_isAlarmSounding_29 (by decide) ?_
        exact z_iret (wf := fun _ : Unit => (wC ad G st ++ wr)) (u := ()) hx hb hr hlocks h0 hw rfl (by rw [f_isAlarmSounding, if_neg c_4, if_pos c_11, if_pos c_22]) (Nat.le_of_ble_eq_true rfl) (Nat.le_of_ble_eq_true rfl) d_S_isAlarmSounding_30
      · refine lv_iconst (v := 1) hx hb d_S_isAlarmSounding_25 (by decide) ?_
        refine lv_goto (tgt := 30) hx hb d_S_isAlarmSounding_26 (by decide) ?_
        exact z_iret (wf := fun _ : Unit => (wC ad G st ++ wr)) (u := ()) hx hb hr hlocks h0 hw rfl (by rw [f_isAlarmSounding, if_neg c_4, if_pos c_11, if_neg c_22]) (Nat.le_of_ble_eq_true rfl) (Nat.le_of_ble_eq_true rfl) d_S_isAlarmSounding_30
set_option maxHeartbeats 4000000 in
set_option maxRecDepth 100000 in
theorem c_S_becomeUserState (l : Launch) (G : gG) (ad : Nat → Nat) (st : CS) (wr : va_W) (sz : Nat) (p1 : Int32)  : Met l y_S_becomeUserState w_S_becomeUserState { frames := 0, cells := 0, slots := 0, locals := 0 } (va_Pc [.ref (ad 0), .int p1] (z_pre G (wC ad G st ++ wr) sz)) (z_Qv0 G (wC ad G st ++ wr) sz (wC ad G (f_becomeUserState st p1) ++ wr)) 0 0 (va_A (wC ad G st ++ wr) sz) := by
  refine Met.ofW (cc := b_S_becomeUserState) (maxL := 2) (ret := none) (by decide) rfl ?_
  intro p e s m args below meth c s₁ B hml hv
  obtain ⟨rfl, hsz, hP, hK, hD0, ham⟩ := hv
  subst hsz
  have hx := B.exec
  have hb := B.bytes
  have hr := B.returns
  have hts : ∀ w ∈ goT, w.before _ s = true := fun w h => atoms_spec (ws := w_S_becomeUserState) B.pre w (List.mem_cons_of_mem _ h)
  have hg : ∀ w, goB w = true → w.before _ s = true := fun w h => hts w (goI h)
  have hown : s.vm.findClass R_S = some m.cls := findClass_of_methodNamed B.named
  have hlocks := B.notSynchronized
  have h0 : z_st G (wC ad G st ++ wr) s := ⟨hK, ham⟩
  have hw : z_wl G (wC ad G st ++ wr) s (wC ad G st ++ wr) s.heap [] := z_0 hP hD0
  have hl := lv_entry ([.ref (ad 0), .int p1]) (n := 2) (Nat.le_of_ble_eq_true rfl)
  rw [lg_entry_eq]
  generalize (lg_sl ([.ref (ad 0), .int p1]) ++ List.replicate (2 - (lg_sl ([.ref (ad 0), .int p1])).length) Slot.unset).toArray = ls at hl ⊢
  have hl : lv_has ls 2 [(0, .ref (ad 0)), (1, .int p1)] := hl
  refine lv_aload_n hx hb d_S_becomeUserState_0 rfl (lv_at hl 0 rfl) ?_
  refine lv_iload_n hx hb d_S_becomeUserState_1 rfl (lv_at hl 1 rfl) ?_
  refine va_put (D := G.1) (ci := 2) (v := .int p1) (ty := .int) (C := R_S) (T := T_S) (N := 14) hx hb hts in_S ty_S ty_S_ok n_S hown h0.1 hw.1 hw.2.1 hw.2.2 0 rfl rfl 6 (by decide) (hg (.fieldLink R_S 37 "SecureEntry" "userState" "I") (by decide +kernel)) (fun _ h9 => h9) rfl (by decide +kernel) rfl rfl (Nat.le_of_ble_eq_true rfl) d_S_becomeUserState_2 (fun H locs hP hD hS => ?_)
  have hw : z_wl G (wC ad G st ++ wr) s (wC ad G (sS st 6 p1) ++ wr) H locs := ⟨hP, hD, hS⟩
  refine lv_aload_n hx hb d_S_becomeUserState_5 rfl (lv_at hl 0 rfl) ?_
  refine lv_aload_n hx hb d_S_becomeUserState_6 rfl (lv_at hl 0 rfl) ?_
  refine va_get (D := G.1) (ci := 2) (v := .int (st.1 4)) (C := R_S) (T := T_S) (N := 14) hx hb hts in_S hown h0.1 hw.1 0 rfl rfl 4 (by decide) (hg (.fieldLink R_S 101 "SecureEntry" "time" "I") (by decide +kernel)) (fun _ h9 => h9) rfl d_S_becomeUserState_7 ?_
  refine va_put (D := G.1) (ci := 2) (v := .int (st.1 4)) (ty := .int) (C := R_S) (T := T_S) (N := 14) hx hb hts in_S ty_S ty_S_ok n_S hown h0.1 hw.1 hw.2.1 hw.2.2 0 rfl rfl 7 (by decide) (hg (.fieldLink R_S 263 "SecureEntry" "userStateSince" "I") (by decide +kernel)) (fun _ h9 => h9) rfl (by decide +kernel) rfl rfl (Nat.le_of_ble_eq_true rfl) d_S_becomeUserState_10 (fun H locs hP hD hS => ?_)
  have hw : z_wl G (wC ad G st ++ wr) s (wC ad G (sS (sS st 6 p1) 7 (st.1 4)) ++ wr) H locs := ⟨hP, hD, hS⟩
  exact z_vret (wf := fun _ : Unit => (wC ad G (f_becomeUserState st p1) ++ wr)) (u := ()) hx hb hr hlocks h0 (by rw [f_becomeUserState]; exact hw) trivial (Nat.le_of_ble_eq_true rfl) (Nat.le_of_ble_eq_true rfl) d_S_becomeUserState_13
set_option maxHeartbeats 4000000 in
set_option maxRecDepth 100000 in
theorem c_S_unlock (l : Launch) (G : gG) (ad : Nat → Nat) (st : CS) (wr : va_W) (sz : Nat)   : Met l y_S_unlock w_S_unlock { frames := 0, cells := 0, slots := 0, locals := 0 } (va_Pc [.ref (ad 0)] (z_pre G (wC ad G st ++ wr) sz)) (z_Qv0 G (wC ad G st ++ wr) sz (wC ad G (f_unlock st) ++ wr)) 0 0 (va_A (wC ad G st ++ wr) sz) := by
  refine Met.ofW (cc := b_S_unlock) (maxL := 1) (ret := none) (by decide) rfl ?_
  intro p e s m args below meth c s₁ B hml hv
  obtain ⟨rfl, hsz, hP, hK, hD0, ham⟩ := hv
  subst hsz
  have hx := B.exec
  have hb := B.bytes
  have hr := B.returns
  have hts : ∀ w ∈ goT, w.before _ s = true := fun w h => atoms_spec (ws := w_S_unlock) B.pre w (List.mem_cons_of_mem _ h)
  have hg : ∀ w, goB w = true → w.before _ s = true := fun w h => hts w (goI h)
  have hown : s.vm.findClass R_S = some m.cls := findClass_of_methodNamed B.named
  have hlocks := B.notSynchronized
  have h0 : z_st G (wC ad G st ++ wr) s := ⟨hK, ham⟩
  have hw : z_wl G (wC ad G st ++ wr) s (wC ad G st ++ wr) s.heap [] := z_0 hP hD0
  have hl := lv_entry ([.ref (ad 0)]) (n := 1) (Nat.le_of_ble_eq_true rfl)
  rw [lg_entry_eq]
  generalize (lg_sl ([.ref (ad 0)]) ++ List.replicate (1 - (lg_sl ([.ref (ad 0)])).length) Slot.unset).toArray = ls at hl ⊢
  have hl : lv_has ls 1 [(0, .ref (ad 0))] := hl
  refine lv_aload_n hx hb d_S_unlock_0 rfl (lv_at hl 0 rfl) ?_
  refine lv_aload_n hx hb d_S_unlock_1 rfl (lv_at hl 0 rfl) ?_
  refine va_get (D := G.1) (ci := 2) (v := .int (st.1 4)) (C := R_S) (T := T_S) (N := 14) hx hb hts in_S hown h0.1 hw.1 0 rfl rfl 4 (by decide) (hg (.fieldLink R_S 101 "SecureEntry" "time" "I") (by decide +kernel)) (fun _ h9 => h9) rfl d_S_unlock_2 ?_
  refine lv_aload_n hx hb d_S_unlock_5 rfl (lv_at hl 0 rfl) ?_
  refine va_get (D := G.1) (ci := 2) (v := .ref (ad 1)) (C := R_S) (T := T_S) (N := 14) hx hb hts in_S hown h0.1 hw.1 0 rfl rfl 0 (by decide) (hg (.fieldLink R_S 18 "SecureEntry" "configuration" "[I") (by decide +kernel)) (fun _ h9 => h9) rfl d_S_unlock_6 ?_
  refine lv_iconst (v := 0) hx hb d_S_unlock_9 (by decide) ?_
  refine va_iald hx hb h0.1 hw.1 1 0 rfl rfl (show vp_in 0 6 by unfold vp_in; decide) d_S_unlock_10 ?_
  refine lv_iadd hx hb d_S_unlock_11 ?_
  refine va_put (D := G.1) (ci := 2) (v := .int ((st.1 4) + ((st.2.1 0) (0 : Int32).toNatClampNeg))) (ty := .int) (C := R_S) (T := T_S) (N := 14) hx hb hts in_S ty_S ty_S_ok n_S hown h0.1 hw.1 hw.2.1 hw.2.2 0 rfl rfl 11 (by decide) (hg (.fieldLink R_S 161 "SecureEntry" "unlockedUntil" "I") (by decide +kernel)) (fun _ h9 => h9) rfl (by decide +kernel) rfl rfl (Nat.le_of_ble_eq_true rfl) d_S_unlock_12 (fun H locs hP hD hS => ?_)
  have hw : z_wl G (wC ad G st ++ wr) s (wC ad G (sS st 11 ((st.1 4) + ((st.2.1 0) (0 : Int32).toNatClampNeg))) ++ wr) H locs := ⟨hP, hD, hS⟩
  refine lv_aload_n hx hb d_S_unlock_15 rfl (lv_at hl 0 rfl) ?_
  refine lv_aload_n hx hb d_S_unlock_16 rfl (lv_at hl 0 rfl) ?_
  refine va_get (D := G.1) (ci := 2) (v := .int ((st.1 4) + ((st.2.1 0) (0 : Int32).toNatClampNeg))) (C := R_S) (T := T_S) (N := 14) hx hb hts in_S hown h0.1 hw.1 0 rfl rfl 11 (by decide) (hg (.fieldLink R_S 161 "SecureEntry" "unlockedUntil" "I") (by decide +kernel)) (fun _ h9 => h9) rfl d_S_unlock_17 ?_
  refine lv_aload_n hx hb d_S_unlock_20 rfl (lv_at hl 0 rfl) ?_
  refine va_get (D := G.1) (ci := 2) (v := .ref (ad 1)) (C := R_S) (T := T_S) (N := 14) hx hb hts in_S hown h0.1 hw.1 0 rfl rfl 0 (by decide) (hg (.fieldLink R_S 18 "SecureEntry" "configuration" "[I") (by decide +kernel)) (fun _ h9 => h9) rfl d_S_unlock_21 ?_
  refine lv_iconst (v := 1) hx hb d_S_unlock_24 (by decide) ?_
  refine va_iald hx hb h0.1 hw.1 1 0 rfl rfl (show vp_in 1 6 by unfold vp_in; decide) d_S_unlock_25 ?_
  refine lv_iadd hx hb d_S_unlock_26 ?_
  refine va_put (D := G.1) (ci := 2) (v := .int (((st.1 4) + ((st.2.1 0) (0 : Int32).toNatClampNeg)) + ((st.2.1 0) (1 : Int32).toNatClampNeg))) (ty := .int) (C := R_S) (T := T_S) (N := 14) hx hb hts in_S ty_S ty_S_ok n_S hown h0.1 hw.1 hw.2.1 hw.2.2 0 rfl rfl 12 (by decide) (hg (.fieldLink R_S 180 "SecureEntry" "alarmTime" "I") (by decide +kernel)) (fun _ h9 => h9) rfl (by decide +kernel) rfl rfl (Nat.le_of_ble_eq_true rfl) d_S_unlock_27 (fun H locs hP hD hS => ?_)
  have hw : z_wl G (wC ad G st ++ wr) s (wC ad G (sS (sS st 11 ((st.1 4) + ((st.2.1 0) (0 : Int32).toNatClampNeg))) 12 (((st.1 4) + ((st.2.1 0) (0 : Int32).toNatClampNeg)) + ((st.2.1 0) (1 : Int32).toNatClampNeg))) ++ wr) H locs := ⟨hP, hD, hS⟩
  exact z_vret (wf := fun _ : Unit => (wC ad G (f_unlock st) ++ wr)) (u := ()) hx hb hr hlocks h0 (by rw [f_unlock]; exact hw) trivial (Nat.le_of_ble_eq_true rfl) (Nat.le_of_ble_eq_true rfl) d_S_unlock_30
set_option maxHeartbeats 4000000 in
set_option maxRecDepth 100000 in
theorem c_O_loseOldest (l : Launch) (G : gG) (ad : Nat → Nat) (st : CS) (wr : va_W) (sz : Nat)   : Met l y_O_loseOldest w_O_loseOldest { frames := 1, cells := 0, slots := 0, locals := 40 } (va_Pc [.ref (ad 4)] (z_pre G (wC ad G st ++ wr) sz)) (z_Qv0 G (wC ad G st ++ wr) sz (wC ad G (f_loseOldest st) ++ wr)) 0 0 (va_A (wC ad G st ++ wr) sz) := by
  refine Met.ofW (cc := b_O_loseOldest) (maxL := 1) (ret := none) (by decide) rfl ?_
  intro p e s m args below meth c s₁ B hml hv
  obtain ⟨rfl, hsz, hP, hK, hD0, ham⟩ := hv
  subst hsz
  have hx := B.exec
  have hb := B.bytes
  have hr := B.returns
  have hts : ∀ w ∈ goT, w.before _ s = true := fun w h => atoms_spec (ws := w_O_loseOldest) B.pre w (List.mem_cons_of_mem _ h)
  have hg : ∀ w, goB w = true → w.before _ s = true := fun w h => hts w (goI h)
  have hown : s.vm.findClass R_O = some m.cls := findClass_of_methodNamed B.named
  have hlocks := B.notSynchronized
  have h0 : z_st G (wC ad G st ++ wr) s := ⟨hK, ham⟩
  have hw : z_wl G (wC ad G st ++ wr) s (wC ad G st ++ wr) s.heap [] := z_0 hP hD0
  have hl := lv_entry ([.ref (ad 4)]) (n := 1) (Nat.le_of_ble_eq_true rfl)
  rw [lg_entry_eq]
  generalize (lg_sl ([.ref (ad 4)]) ++ List.replicate (1 - (lg_sl ([.ref (ad 4)])).length) Slot.unset).toArray = ls at hl ⊢
  have hl : lv_has ls 1 [(0, .ref (ad 4))] := hl
  refine lv_aload_n hx hb d_O_loseOldest_0 rfl (lv_at hl 0 rfl) ?_
  refine lv_bipush (v := 12) hx hb d_O_loseOldest_1 (by decide) ?_
  refine va_put (D := G.1) (ci := 1) (v := .int 12) (ty := .int) (C := R_O) (T := T_O) (N := 5) hx hb hts in_O ty_O ty_O_ok n_O hown h0.1 hw.1 hw.2.1 hw.2.2 4 rfl rfl 3 (by decide) (hg (.fieldLink R_O 19 "SecureEntry$Log" "size" "I") (by decide +kernel)) (fun _ h9 => h9) rfl (by decide +kernel) rfl rfl (Nat.le_of_ble_eq_true rfl) d_O_loseOldest_3 (fun H locs hP hD hS => ?_)
  have hw : z_wl G (wC ad G st ++ wr) s (wC ad G (sS st 14 12) ++ wr) H locs := ⟨hP, hD, hS⟩
  refine lv_aload_n hx hb d_O_loseOldest_6 rfl (lv_at hl 0 rfl) ?_
  refine va_get (D := G.1) (ci := 1) (v := .ref (ad 5)) (C := R_O) (T := T_O) (N := 5) hx hb hts in_O hown h0.1 hw.1 4 rfl rfl 0 (by decide) (hg (.fieldLink R_O 9 "SecureEntry$Log" "kinds" "[I") (by decide +kernel)) (fun _ h9 => h9) rfl d_O_loseOldest_7 ?_
  refine lv_iconst (v := 4) hx hb d_O_loseOldest_10 (by decide) ?_
  refine lv_aload_n hx hb d_O_loseOldest_11 rfl (lv_at hl 0 rfl) ?_
  refine va_get (D := G.1) (ci := 1) (v := .ref (ad 5)) (C := R_O) (T := T_O) (N := 5) hx hb hts in_O hown h0.1 hw.1 4 rfl rfl 0 (by decide) (hg (.fieldLink R_O 9 "SecureEntry$Log" "kinds" "[I") (by decide +kernel)) (fun _ h9 => h9) rfl d_O_loseOldest_12 ?_
  refine lv_iconst (v := 0) hx hb d_O_loseOldest_15 (by decide) ?_
  refine lv_aload_n hx hb d_O_loseOldest_16 rfl (lv_at hl 0 rfl) ?_
  refine va_get (D := G.1) (ci := 1) (v := .int 12) (C := R_O) (T := T_O) (N := 5) hx hb hts in_O hown h0.1 hw.1 4 rfl rfl 3 (by decide) (hg (.fieldLink R_O 19 "SecureEntry$Log" "size" "I") (by decide +kernel)) (fun _ h9 => h9) rfl d_O_loseOldest_17 ?_
  refine va_copyi (f := (st.2.1 2)) (g := (st.2.1 2)) hx hb (by rw [hml]; exact hl.1.symm) hown (hg (.methodLink R_O 26 arraycopyName) (by decide +kernel)) (hg (.native arraycopyName) (by decide +kernel)) (hg (.static arraycopyName) (by decide +kernel)) (hg (.initialized "java/lang/System") (by decide +kernel)) h0.1 hw.1 hw.2.1 hw.2.2 5 5 0 0 rfl rfl rfl rfl rfl (by decide) (by decide) (by decide) (by decide) (by decide) (fun _ _ => rfl) (Nat.le_of_ble_eq_true rfl) (by decide) d_O_loseOldest_20 (fun H locs hP hD hS => ?_)
  have hw : z_wl G (wC ad G st ++ wr) s (wC ad G (sA (sS st 14 12) 2 (va_cpy (st.2.1 2) (st.2.1 2) (4 : Int32).toNatClampNeg (0 : Int32).toNatClampNeg (12 : Int32).toNatClampNeg)) ++ wr) H locs := ⟨hP, hD, hS⟩
  refine lv_aload_n hx hb d_O_loseOldest_23 rfl (lv_at hl 0 rfl) ?_
  refine va_get (D := G.1) (ci := 1) (v := .ref (ad 6)) (C := R_O) (T := T_O) (N := 5) hx hb hts in_O hown h0.1 hw.1 4 rfl rfl 1 (by decide) (hg (.fieldLink R_O 13 "SecureEntry$Log" "times" "[I") (by decide +kernel)) (fun _ h9 => h9) rfl d_O_loseOldest_24 ?_
  refine lv_iconst (v := 4) hx hb d_O_loseOldest_27 (by decide) ?_
  refine lv_aload_n hx hb d_O_loseOldest_28 rfl (lv_at hl 0 rfl) ?_
  refine va_get (D := G.1) (ci := 1) (v := .ref (ad 6)) (C := R_O) (T := T_O) (N := 5) hx hb hts in_O hown h0.1 hw.1 4 rfl rfl 1 (by decide) (hg (.fieldLink R_O 13 "SecureEntry$Log" "times" "[I") (by decide +kernel)) (fun _ h9 => h9) rfl d_O_loseOldest_29 ?_
  refine lv_iconst (v := 0) hx hb d_O_loseOldest_32 (by decide) ?_
  refine lv_aload_n hx hb d_O_loseOldest_33 rfl (lv_at hl 0 rfl) ?_
  refine va_get (D := G.1) (ci := 1) (v := .int 12) (C := R_O) (T := T_O) (N := 5) hx hb hts in_O hown h0.1 hw.1 4 rfl rfl 3 (by decide) (hg (.fieldLink R_O 19 "SecureEntry$Log" "size" "I") (by decide +kernel)) (fun _ h9 => h9) rfl d_O_loseOldest_34 ?_
  refine va_copyi (f := (st.2.1 3)) (g := (st.2.1 3)) hx hb (by rw [hml]; exact hl.1.symm) hown (hg (.methodLink R_O 26 arraycopyName) (by decide +kernel)) (hg (.native arraycopyName) (by decide +kernel)) (hg (.static arraycopyName) (by decide +kernel)) (hg (.initialized "java/lang/System") (by decide +kernel)) h0.1 hw.1 hw.2.1 hw.2.2 6 6 0 0 rfl rfl rfl rfl rfl (by decide) (by decide) (by decide) (by decide) (by decide) (fun _ _ => rfl) (Nat.le_of_ble_eq_true rfl) (by decide) d_O_loseOldest_37 (fun H locs hP hD hS => ?_)
  have hw : z_wl G (wC ad G st ++ wr) s (wC ad G (sA (sA (sS st 14 12) 2 (va_cpy (st.2.1 2) (st.2.1 2) (4 : Int32).toNatClampNeg (0 : Int32).toNatClampNeg (12 : Int32).toNatClampNeg)) 3 (va_cpy (st.2.1 3) (st.2.1 3) (4 : Int32).toNatClampNeg (0 : Int32).toNatClampNeg (12 : Int32).toNatClampNeg)) ++ wr) H locs := ⟨hP, hD, hS⟩
  refine lv_aload_n hx hb d_O_loseOldest_40 rfl (lv_at hl 0 rfl) ?_
  refine va_get (D := G.1) (ci := 1) (v := .ref (ad 7)) (C := R_O) (T := T_O) (N := 5) hx hb hts in_O hown h0.1 hw.1 4 rfl rfl 2 (by decide) (hg (.fieldLink R_O 16 "SecureEntry$Log" "holders" "[I") (by decide +kernel)) (fun _ h9 => h9) rfl d_O_loseOldest_41 ?_
  refine lv_iconst (v := 4) hx hb d_O_loseOldest_44 (by decide) ?_
  refine lv_aload_n hx hb d_O_loseOldest_45 rfl (lv_at hl 0 rfl) ?_
  refine va_get (D := G.1) (ci := 1) (v := .ref (ad 7)) (C := R_O) (T := T_O) (N := 5) hx hb hts in_O hown h0.1 hw.1 4 rfl rfl 2 (by decide) (hg (.fieldLink R_O 16 "SecureEntry$Log" "holders" "[I") (by decide +kernel)) (fun _ h9 => h9) rfl d_O_loseOldest_46 ?_
  refine lv_iconst (v := 0) hx hb d_O_loseOldest_49 (by decide) ?_
  refine lv_aload_n hx hb d_O_loseOldest_50 rfl (lv_at hl 0 rfl) ?_
  refine va_get (D := G.1) (ci := 1) (v := .int 12) (C := R_O) (T := T_O) (N := 5) hx hb hts in_O hown h0.1 hw.1 4 rfl rfl 3 (by decide) (hg (.fieldLink R_O 19 "SecureEntry$Log" "size" "I") (by decide +kernel)) (fun _ h9 => h9) rfl d_O_loseOldest_51 ?_
  refine va_copyi (f := (st.2.1 4)) (g := (st.2.1 4)) hx hb (by rw [hml]; exact hl.1.symm) hown (hg (.methodLink R_O 26 arraycopyName) (by decide +kernel)) (hg (.native arraycopyName) (by decide +kernel)) (hg (.static arraycopyName) (by decide +kernel)) (hg (.initialized "java/lang/System") (by decide +kernel)) h0.1 hw.1 hw.2.1 hw.2.2 7 7 0 0 rfl rfl rfl rfl rfl (by decide) (by decide) (by decide) (by decide) (by decide) (fun _ _ => rfl) (Nat.le_of_ble_eq_true rfl) (by decide) d_O_loseOldest_54 (fun H locs hP hD hS => ?_)
  have hw : z_wl G (wC ad G st ++ wr) s (wC ad G (sA (sA (sA (sS st 14 12) 2 (va_cpy (st.2.1 2) (st.2.1 2) (4 : Int32).toNatClampNeg (0 : Int32).toNatClampNeg (12 : Int32).toNatClampNeg)) 3 (va_cpy (st.2.1 3) (st.2.1 3) (4 : Int32).toNatClampNeg (0 : Int32).toNatClampNeg (12 : Int32).toNatClampNeg)) 4 (va_cpy (st.2.1 4) (st.2.1 4) (4 : Int32).toNatClampNeg (0 : Int32).toNatClampNeg (12 : Int32).toNatClampNeg)) ++ wr) H locs := ⟨hP, hD, hS⟩
  refine lv_aload_n hx hb d_O_loseOldest_57 rfl (lv_at hl 0 rfl) ?_
  refine lv_iconst (v := 1) hx hb d_O_loseOldest_58 (by decide) ?_
  refine va_put (D := G.1) (ci := 1) (v := .int 1) (ty := .boolean) (C := R_O) (T := T_O) (N := 5) hx hb hts in_O ty_O ty_O_ok n_O hown h0.1 hw.1 hw.2.1 hw.2.2 4 rfl rfl 4 (by decide) (hg (.fieldLink R_O 32 "SecureEntry$Log" "alarm" "Z") (by decide +kernel)) (fun _ h9 => h9) rfl (by decide +kernel) rfl rfl (Nat.le_of_ble_eq_true rfl) d_O_loseOldest_59 (fun H locs hP hD hS => ?_)
  have hw : z_wl G (wC ad G st ++ wr) s (wC ad G (sS (sA (sA (sA (sS st 14 12) 2 (va_cpy (st.2.1 2) (st.2.1 2) (4 : Int32).toNatClampNeg (0 : Int32).toNatClampNeg (12 : Int32).toNatClampNeg)) 3 (va_cpy (st.2.1 3) (st.2.1 3) (4 : Int32).toNatClampNeg (0 : Int32).toNatClampNeg (12 : Int32).toNatClampNeg)) 4 (va_cpy (st.2.1 4) (st.2.1 4) (4 : Int32).toNatClampNeg (0 : Int32).toNatClampNeg (12 : Int32).toNatClampNeg)) 15 1) ++ wr) H locs := ⟨hP, hD, hS⟩
  exact z_vret (wf := fun _ : Unit => (wC ad G (f_loseOldest st) ++ wr)) (u := ()) hx hb hr hlocks h0 (by rw [f_loseOldest]; exact hw) trivial (Nat.le_of_ble_eq_true rfl) (Nat.le_of_ble_eq_true rfl) d_O_loseOldest_62
set_option maxHeartbeats 4000000 in
set_option maxRecDepth 100000 in
theorem c_O_clear (l : Launch) (G : gG) (ad : Nat → Nat) (st : CS) (wr : va_W) (sz : Nat)   : Met l y_O_clear w_O_clear { frames := 0, cells := 0, slots := 0, locals := 0 } (va_Pc [.ref (ad 4)] (z_pre G (wC ad G st ++ wr) sz)) (z_Qv0 G (wC ad G st ++ wr) sz (wC ad G (f_clear st) ++ wr)) 0 0 (va_A (wC ad G st ++ wr) sz) := by
  refine Met.ofW (cc := b_O_clear) (maxL := 1) (ret := none) (by decide) rfl ?_
  intro p e s m args below meth c s₁ B hml hv
  obtain ⟨rfl, hsz, hP, hK, hD0, ham⟩ := hv
  subst hsz
  have hx := B.exec
  have hb := B.bytes
  have hr := B.returns
  have hts : ∀ w ∈ goT, w.before _ s = true := fun w h => atoms_spec (ws := w_O_clear) B.pre w (List.mem_cons_of_mem _ h)
  have hg : ∀ w, goB w = true → w.before _ s = true := fun w h => hts w (goI h)
  have hown : s.vm.findClass R_O = some m.cls := findClass_of_methodNamed B.named
  have hlocks := B.notSynchronized
  have h0 : z_st G (wC ad G st ++ wr) s := ⟨hK, ham⟩
  have hw : z_wl G (wC ad G st ++ wr) s (wC ad G st ++ wr) s.heap [] := z_0 hP hD0
  have hl := lv_entry ([.ref (ad 4)]) (n := 1) (Nat.le_of_ble_eq_true rfl)
  rw [lg_entry_eq]
  generalize (lg_sl ([.ref (ad 4)]) ++ List.replicate (1 - (lg_sl ([.ref (ad 4)])).length) Slot.unset).toArray = ls at hl ⊢
  have hl : lv_has ls 1 [(0, .ref (ad 4))] := hl
  refine lv_aload_n hx hb d_O_clear_0 rfl (lv_at hl 0 rfl) ?_
  refine lv_iconst (v := 0) hx hb d_O_clear_1 (by decide) ?_
  refine va_put (D := G.1) (ci := 1) (v := .int 0) (ty := .int) (C := R_O) (T := T_O) (N := 5) hx hb hts in_O ty_O ty_O_ok n_O hown h0.1 hw.1 hw.2.1 hw.2.2 4 rfl rfl 3 (by decide) (hg (.fieldLink R_O 19 "SecureEntry$Log" "size" "I") (by decide +kernel)) (fun _ h9 => h9) rfl (by decide +kernel) rfl rfl (Nat.le_of_ble_eq_true rfl) d_O_clear_2 (fun H locs hP hD hS => ?_)
  have hw : z_wl G (wC ad G st ++ wr) s (wC ad G (sS st 14 0) ++ wr) H locs := ⟨hP, hD, hS⟩
  refine lv_aload_n hx hb d_O_clear_5 rfl (lv_at hl 0 rfl) ?_
  refine lv_iconst (v := 0) hx hb d_O_clear_6 (by decide) ?_
  refine va_put (D := G.1) (ci := 1) (v := .int 0) (ty := .boolean) (C := R_O) (T := T_O) (N := 5) hx hb hts in_O ty_O ty_O_ok n_O hown h0.1 hw.1 hw.2.1 hw.2.2 4 rfl rfl 4 (by decide) (hg (.fieldLink R_O 32 "SecureEntry$Log" "alarm" "Z") (by decide +kernel)) (fun _ h9 => h9) rfl (by decide +kernel) rfl rfl (Nat.le_of_ble_eq_true rfl) d_O_clear_7 (fun H locs hP hD hS => ?_)
  have hw : z_wl G (wC ad G st ++ wr) s (wC ad G (sS (sS st 14 0) 15 0) ++ wr) H locs := ⟨hP, hD, hS⟩
  exact z_vret (wf := fun _ : Unit => (wC ad G (f_clear st) ++ wr)) (u := ()) hx hb hr hlocks h0 (by rw [f_clear]; exact hw) trivial (Nat.le_of_ble_eq_true rfl) (Nat.le_of_ble_eq_true rfl) d_O_clear_10
set_option maxHeartbeats 4000000 in
set_option maxRecDepth 100000 in
theorem c_O_write (l : Launch) (G : gG) (ad : Nat → Nat) (st : CS) (wr : va_W) (sz : Nat) (p1 : Int32) (p2 : Int32) (p3 : Int32) (hI : InvC st) : Met l y_O_write w_O_write { frames := 2, cells := 0, slots := 0, locals := 60 } (va_Pc [.ref (ad 4), .int p1, .int p2, .int p3] (z_pre G (wC ad G st ++ wr) sz)) (z_Qv0 G (wC ad G st ++ wr) sz (wC ad G (f_write st p1 p2 p3) ++ wr)) 0 0 (va_A (wC ad G st ++ wr) sz) := by
  refine Met.ofW (cc := b_O_write) (maxL := 4) (ret := none) (by decide) rfl ?_
  intro p e s m args below meth c s₁ B hml hv
  obtain ⟨rfl, hsz, hP, hK, hD0, ham⟩ := hv
  subst hsz
  have hx := B.exec
  have hb := B.bytes
  have hr := B.returns
  have hts : ∀ w ∈ goT, w.before _ s = true := fun w h => atoms_spec (ws := w_O_write) B.pre w (List.mem_cons_of_mem _ h)
  have hg : ∀ w, goB w = true → w.before _ s = true := fun w h => hts w (goI h)
  have hown : s.vm.findClass R_O = some m.cls := findClass_of_methodNamed B.named
  have hlocks := B.notSynchronized
  have h0 : z_st G (wC ad G st ++ wr) s := ⟨hK, ham⟩
  have hw : z_wl G (wC ad G st ++ wr) s (wC ad G st ++ wr) s.heap [] := z_0 hP hD0
  have hl := lv_entry ([.ref (ad 4), .int p1, .int p2, .int p3]) (n := 4) (Nat.le_of_ble_eq_true rfl)
  rw [lg_entry_eq]
  generalize (lg_sl ([.ref (ad 4), .int p1, .int p2, .int p3]) ++ List.replicate (4 - (lg_sl ([.ref (ad 4), .int p1, .int p2, .int p3])).length) Slot.unset).toArray = ls at hl ⊢
  have hl : lv_has ls 4 [(0, .ref (ad 4)), (1, .int p1), (2, .int p2), (3, .int p3)] := hl
  refine lv_aload_n hx hb d_O_write_0 rfl (lv_at hl 0 rfl) ?_
  refine va_get (D := G.1) (ci := 1) (v := .int (st.1 14)) (C := R_O) (T := T_O) (N := 5) hx hb hts in_O hown h0.1 hw.1 4 rfl rfl 3 (by decide) (hg (.fieldLink R_O 19 "SecureEntry$Log" "size" "I") (by decide +kernel)) (fun _ h9 => h9) rfl d_O_write_1 ?_
  refine lv_bipush (v := 16) hx hb d_O_write_4 (by decide) ?_
  refine lv_icmp_lt (tgt := 13) hx hb d_O_write_6 (by decide) (fun c_6 => ?_) (fun c_6 => ?_)
  · refine lv_aload_n hx hb d_O_write_13 rfl (lv_at hl 0 rfl) ?_
    refine va_get (D := G.1) (ci := 1) (v := .ref (ad 5)) (C := R_O) (T := T_O) (N := 5) hx hb hts in_O hown h0.1 hw.1 4 rfl rfl 0 (by decide) (hg (.fieldLink R_O 9 "SecureEntry$Log" "kinds" "[I") (by decide +kernel)) (fun _ h9 => h9) rfl d_O_write_14 ?_
    refine lv_aload_n hx hb d_O_write_17 rfl (lv_at hl 0 rfl) ?_
    refine va_get (D := G.1) (ci := 1) (v := .int (st.1 14)) (C := R_O) (T := T_O) (N := 5) hx hb hts in_O hown h0.1 hw.1 4 rfl rfl 3 (by decide) (hg (.fieldLink R_O 19 "SecureEntry$Log" "size" "I") (by decide +kernel)) (fun _ h9 => h9) rfl d_O_write_18 ?_
    refine lv_iload_n hx hb d_O_write_21 rfl (lv_at hl 1 rfl) ?_
    refine va_iast hx hb h0.1 hw.1 hw.2.1 hw.2.2 5 0 rfl rfl (by first | exact z_ws1 hI.2.2.1 c_6 | (show vp_in 12 16; unfold vp_in; decide)) d_O_write_22 (fun H locs hP hD hS => ?_)
    have hI : InvC (sA st 2 (upd (st.2.1 2) (st.1 14).toNatClampNeg p1)) := inv_sA hI
    have hw : z_wl G (wC ad G st ++ wr) s (wC ad G (sA st 2 (upd (st.2.1 2) (st.1 14).toNatClampNeg p1)) ++ wr) H locs := ⟨hP, hD, hS⟩
    refine lv_aload_n hx hb d_O_write_23 rfl (lv_at hl 0 rfl) ?_
    refine va_get (D := G.1) (ci := 1) (v := .ref (ad 6)) (C := R_O) (T := T_O) (N := 5) hx hb hts in_O hown h0.1 hw.1 4 rfl rfl 1 (by decide) (hg (.fieldLink R_O 13 "SecureEntry$Log" "times" "[I") (by decide +kernel)) (fun _ h9 => h9) rfl d_O_write_24 ?_
    refine lv_aload_n hx hb d_O_write_27 rfl (lv_at hl 0 rfl) ?_
    refine va_get (D := G.1) (ci := 1) (v := .int (st.1 14)) (C := R_O) (T := T_O) (N := 5) hx hb hts in_O hown h0.1 hw.1 4 rfl rfl 3 (by decide) (hg (.fieldLink R_O 19 "SecureEntry$Log" "size" "I") (by decide +kernel)) (fun _ h9 => h9) rfl d_O_write_28 ?_
    refine lv_iload_n hx hb d_O_write_31 rfl (lv_at hl 2 rfl) ?_
    refine va_iast hx hb h0.1 hw.1 hw.2.1 hw.2.2 6 0 rfl rfl (by first | exact z_ws1 hI.2.2.1 c_6 | (show vp_in 12 16; unfold vp_in; decide)) d_O_write_32 (fun H locs hP hD hS => ?_)
    have hI : InvC (sA (sA st 2 (upd (st.2.1 2) (st.1 14).toNatClampNeg p1)) 3 (upd (st.2.1 3) (st.1 14).toNatClampNeg p2)) := inv_sA hI
    have hw : z_wl G (wC ad G st ++ wr) s (wC ad G (sA (sA st 2 (upd (st.2.1 2) (st.1 14).toNatClampNeg p1)) 3 (upd (st.2.1 3) (st.1 14).toNatClampNeg p2)) ++ wr) H locs := ⟨hP, hD, hS⟩
    refine lv_aload_n hx hb d_O_write_33 rfl (lv_at hl 0 rfl) ?_
    refine va_get (D := G.1) (ci := 1) (v := .ref (ad 7)) (C := R_O) (T := T_O) (N := 5) hx hb hts in_O hown h0.1 hw.1 4 rfl rfl 2 (by decide) (hg (.fieldLink R_O 16 "SecureEntry$Log" "holders" "[I") (by decide +kernel)) (fun _ h9 => h9) rfl d_O_write_34 ?_
    refine lv_aload_n hx hb d_O_write_37 rfl (lv_at hl 0 rfl) ?_
    refine va_get (D := G.1) (ci := 1) (v := .int (st.1 14)) (C := R_O) (T := T_O) (N := 5) hx hb hts in_O hown h0.1 hw.1 4 rfl rfl 3 (by decide) (hg (.fieldLink R_O 19 "SecureEntry$Log" "size" "I") (by decide +kernel)) (fun _ h9 => h9) rfl d_O_write_38 ?_
    refine lv_iload_n hx hb d_O_write_41 rfl (lv_at hl 3 rfl) ?_
    refine va_iast hx hb h0.1 hw.1 hw.2.1 hw.2.2 7 0 rfl rfl (by first | exact z_ws1 hI.2.2.1 c_6 | (show vp_in 12 16; unfold vp_in; decide)) d_O_write_42 (fun H locs hP hD hS => ?_)
    have hI : InvC (sA (sA (sA st 2 (upd (st.2.1 2) (st.1 14).toNatClampNeg p1)) 3 (upd (st.2.1 3) (st.1 14).toNatClampNeg p2)) 4 (upd (st.2.1 4) (st.1 14).toNatClampNeg p3)) := inv_sA hI
    have hw : z_wl G (wC ad G st ++ wr) s (wC ad G (sA (sA (sA st 2 (upd (st.2.1 2) (st.1 14).toNatClampNeg p1)) 3 (upd (st.2.1 3) (st.1 14).toNatClampNeg p2)) 4 (upd (st.2.1 4) (st.1 14).toNatClampNeg p3)) ++ wr) H locs := ⟨hP, hD, hS⟩
    refine lv_aload_n hx hb d_O_write_43 rfl (lv_at hl 0 rfl) ?_
    refine lv_dup hx hb d_O_write_44 rfl ?_
    refine va_get (D := G.1) (ci := 1) (v := .int (st.1 14)) (C := R_O) (T := T_O) (N := 5) hx hb hts in_O hown h0.1 hw.1 4 rfl rfl 3 (by decide) (hg (.fieldLink R_O 19 "SecureEntry$Log" "size" "I") (by decide +kernel)) (fun _ h9 => h9) rfl d_O_write_45 ?_
    refine lv_iconst (v := 1) hx hb d_O_write_48 (by decide) ?_
    refine lv_iadd hx hb d_O_write_49 ?_
    refine va_put (D := G.1) (ci := 1) (v := .int ((st.1 14) + 1)) (ty := .int) (C := R_O) (T := T_O) (N := 5) hx hb hts in_O ty_O ty_O_ok n_O hown h0.1 hw.1 hw.2.1 hw.2.2 4 rfl rfl 3 (by decide) (hg (.fieldLink R_O 19 "SecureEntry$Log" "size" "I") (by decide +kernel)) (fun _ h9 => h9) rfl (by decide +kernel) rfl rfl (Nat.le_of_ble_eq_true rfl) d_O_write_50 (fun H locs hP hD hS => ?_)
    have hw : z_wl G (wC ad G st ++ wr) s (wC ad G (sS (sA (sA (sA st 2 (upd (st.2.1 2) (st.1 14).toNatClampNeg p1)) 3 (upd (st.2.1 3) (st.1 14).toNatClampNeg p2)) 4 (upd (st.2.1 4) (st.1 14).toNatClampNeg p3)) 14 ((st.1 14) + 1)) ++ wr) H locs := ⟨hP, hD, hS⟩
    exact z_vret (wf := fun _ : Unit => (wC ad G (f_write st p1 p2 p3) ++ wr)) (u := ()) hx hb hr hlocks h0 (by rw [f_write, if_pos c_6]; exact hw) trivial (Nat.le_of_ble_eq_true rfl) (Nat.le_of_ble_eq_true rfl) d_O_write_53
  · refine lv_aload_n hx hb d_O_write_9 rfl (lv_at hl 0 rfl) ?_
    refine z_Vv0 (As := []) (ws1 := (wC ad G (f_loseOldest st) ++ wr)) ⟨hx, hb, hml, hown, hts⟩ (c_O_loseOldest l G ad st wr _) (cwV 0 hts gV_O_23 rfl rfl rfl (by decide +kernel) ⟨Nat.le_of_ble_eq_true rfl, Nat.le_of_ble_eq_true rfl⟩) h0 hw 4 rfl rfl rfl rfl hl.1 rfl (Nat.le_of_ble_eq_true rfl) d_O_write_10 ⟨Nat.le_of_ble_eq_true rfl, Nat.le_of_ble_eq_true rfl⟩ (fun H locs hw => ?_)
    have hI : InvC (f_loseOldest st) := inv_f_loseOldest hI
    refine lv_aload_n hx hb d_O_write_13 rfl (lv_at hl 0 rfl) ?_
    refine va_get (D := G.1) (ci := 1) (v := .ref (ad 5)) (C := R_O) (T := T_O) (N := 5) hx hb hts in_O hown h0.1 hw.1 4 rfl rfl 0 (by decide) (hg (.fieldLink R_O 9 "SecureEntry$Log" "kinds" "[I") (by decide +kernel)) (fun _ h9 => h9) rfl d_O_write_14 ?_
    refine lv_aload_n hx hb d_O_write_17 rfl (lv_at hl 0 rfl) ?_
    refine va_get (D := G.1) (ci := 1) (v := .int ((f_loseOldest st).1 14)) (C := R_O) (T := T_O) (N := 5) hx hb hts in_O hown h0.1 hw.1 4 rfl rfl 3 (by decide) (hg (.fieldLink R_O 19 "SecureEntry$Log" "size" "I") (by decide +kernel)) (fun _ h9 => h9) rfl d_O_write_18 ?_
    refine lv_iload_n hx hb d_O_write_21 rfl (lv_at hl 1 rfl) ?_
    refine va_iast hx hb h0.1 hw.1 hw.2.1 hw.2.2 5 0 rfl rfl (by first | exact z_ws1 hI.2.2.1 c_6 | (show vp_in 12 16; unfold vp_in; decide)) d_O_write_22 (fun H locs hP hD hS => ?_)
    have hI : InvC (sA (f_loseOldest st) 2 (upd ((f_loseOldest st).2.1 2) ((f_loseOldest st).1 14).toNatClampNeg p1)) := inv_sA hI
    have hw : z_wl G (wC ad G st ++ wr) s (wC ad G (sA (f_loseOldest st) 2 (upd ((f_loseOldest st).2.1 2) ((f_loseOldest st).1 14).toNatClampNeg p1)) ++ wr) H locs := ⟨hP, hD, hS⟩
    refine lv_aload_n hx hb d_O_write_23 rfl (lv_at hl 0 rfl) ?_
    refine va_get (D := G.1) (ci := 1) (v := .ref (ad 6)) (C := R_O) (T := T_O) (N := 5) hx hb hts in_O hown h0.1 hw.1 4 rfl rfl 1 (by decide) (hg (.fieldLink R_O 13 "SecureEntry$Log" "times" "[I") (by decide +kernel)) (fun _ h9 => h9) rfl d_O_write_24 ?_
    refine lv_aload_n hx hb d_O_write_27 rfl (lv_at hl 0 rfl) ?_
    refine va_get (D := G.1) (ci := 1) (v := .int ((f_loseOldest st).1 14)) (C := R_O) (T := T_O) (N := 5) hx hb hts in_O hown h0.1 hw.1 4 rfl rfl 3 (by decide) (hg (.fieldLink R_O 19 "SecureEntry$Log" "size" "I") (by decide +kernel)) (fun _ h9 => h9) rfl d_O_write_28 ?_
    refine lv_iload_n hx hb d_O_write_31 rfl (lv_at hl 2 rfl) ?_
    refine va_iast hx hb h0.1 hw.1 hw.2.1 hw.2.2 6 0 rfl rfl (by first | exact z_ws1 hI.2.2.1 c_6 | (show vp_in 12 16; unfold vp_in; decide)) d_O_write_32 (fun H locs hP hD hS => ?_)
    have hI : InvC (sA (sA (f_loseOldest st) 2 (upd ((f_loseOldest st).2.1 2) ((f_loseOldest st).1 14).toNatClampNeg p1)) 3 (upd ((f_loseOldest st).2.1 3) ((f_loseOldest st).1 14).toNatClampNeg p2)) := inv_sA hI
    have hw : z_wl G (wC ad G st ++ wr) s (wC ad G (sA (sA (f_loseOldest st) 2 (upd ((f_loseOldest st).2.1 2) ((f_loseOldest st).1 14).toNatClampNeg p1)) 3 (upd ((f_loseOldest st).2.1 3) ((f_loseOldest st).1 14).toNatClampNeg p2)) ++ wr) H locs := ⟨hP, hD, hS⟩
    refine lv_aload_n hx hb d_O_write_33 rfl (lv_at hl 0 rfl) ?_
    refine va_get (D := G.1) (ci := 1) (v := .ref (ad 7)) (C := R_O) (T := T_O) (N := 5) hx hb hts in_O hown h0.1 hw.1 4 rfl rfl 2 (by decide) (hg (.fieldLink R_O 16 "SecureEntry$Log" "holders" "[I") (by decide +kernel)) (fun _ h9 => h9) rfl d_O_write_34 ?_
    refine lv_aload_n hx hb d_O_write_37 rfl (lv_at hl 0 rfl) ?_
    refine va_get (D := G.1) (ci := 1) (v := .int ((f_loseOldest st).1 14)) (C := R_O) (T := T_O) (N := 5) hx hb hts in_O hown h0.1 hw.1 4 rfl rfl 3 (by decide) (hg (.fieldLink R_O 19 "SecureEntry$Log" "size" "I") (by decide +kernel)) (fun _ h9 => h9) rfl d_O_write_38 ?_
    refine lv_iload_n hx hb d_O_write_41 rfl (lv_at hl 3 rfl) ?_
    refine va_iast hx hb h0.1 hw.1 hw.2.1 hw.2.2 7 0 rfl rfl (by first | exact z_ws1 hI.2.2.1 c_6 | (show vp_in 12 16; unfold vp_in; decide)) d_O_write_42 (fun H locs hP hD hS => ?_)
    have hI : InvC (sA (sA (sA (f_loseOldest st) 2 (upd ((f_loseOldest st).2.1 2) ((f_loseOldest st).1 14).toNatClampNeg p1)) 3 (upd ((f_loseOldest st).2.1 3) ((f_loseOldest st).1 14).toNatClampNeg p2)) 4 (upd ((f_loseOldest st).2.1 4) ((f_loseOldest st).1 14).toNatClampNeg p3)) := inv_sA hI
    have hw : z_wl G (wC ad G st ++ wr) s (wC ad G (sA (sA (sA (f_loseOldest st) 2 (upd ((f_loseOldest st).2.1 2) ((f_loseOldest st).1 14).toNatClampNeg p1)) 3 (upd ((f_loseOldest st).2.1 3) ((f_loseOldest st).1 14).toNatClampNeg p2)) 4 (upd ((f_loseOldest st).2.1 4) ((f_loseOldest st).1 14).toNatClampNeg p3)) ++ wr) H locs := ⟨hP, hD, hS⟩
    refine lv_aload_n hx hb d_O_write_43 rfl (lv_at hl 0 rfl) ?_
    refine lv_dup hx hb d_O_write_44 rfl ?_
    refine va_get (D := G.1) (ci := 1) (v := .int ((f_loseOldest st).1 14)) (C := R_O) (T := T_O) (N := 5) hx hb hts in_O hown h0.1 hw.1 4 rfl rfl 3 (by decide) (hg (.fieldLink R_O 19 "SecureEntry$Log" "size" "I") (by decide +kernel)) (fun _ h9 => h9) rfl d_O_write_45 ?_
    refine lv_iconst (v := 1) hx hb d_O_write_48 (by decide) ?_
    refine lv_iadd hx hb d_O_write_49 ?_
    refine va_put (D := G.1) (ci := 1) (v := .int (((f_loseOldest st).1 14) + 1)) (ty := .int) (C := R_O) (T := T_O) (N := 5) hx hb hts in_O ty_O ty_O_ok n_O hown h0.1 hw.1 hw.2.1 hw.2.2 4 rfl rfl 3 (by decide) (hg (.fieldLink R_O 19 "SecureEntry$Log" "size" "I") (by decide +kernel)) (fun _ h9 => h9) rfl (by decide +kernel) rfl rfl (Nat.le_of_ble_eq_true rfl) d_O_write_50 (fun H locs hP hD hS => ?_)
    have hw : z_wl G (wC ad G st ++ wr) s (wC ad G (sS (sA (sA (sA (f_loseOldest st) 2 (upd ((f_loseOldest st).2.1 2) ((f_loseOldest st).1 14).toNatClampNeg p1)) 3 (upd ((f_loseOldest st).2.1 3) ((f_loseOldest st).1 14).toNatClampNeg p2)) 4 (upd ((f_loseOldest st).2.1 4) ((f_loseOldest st).1 14).toNatClampNeg p3)) 14 (((f_loseOldest st).1 14) + 1)) ++ wr) H locs := ⟨hP, hD, hS⟩
    exact z_vret (wf := fun _ : Unit => (wC ad G (f_write st p1 p2 p3) ++ wr)) (u := ()) hx hb hr hlocks h0 (by rw [f_write, if_neg c_6]; exact hw) trivial (Nat.le_of_ble_eq_true rfl) (Nat.le_of_ble_eq_true rfl) d_O_write_53
end CON
end
section
section CON
set_option maxHeartbeats 4000000 in
set_option maxRecDepth 100000 in
theorem c_S_writeAbout (l : Launch) (G : gG) (ad : Nat → Nat) (st : CS) (wr : va_W) (sz : Nat) (p1 : Int32) (p2 : Int32) (hI : InvC st) (hp1 : tokOK p1) : Met l y_S_writeAbout w_S_writeAbout { frames := 3, cells := 0, slots := 0, locals := 83 } (va_Pc [.ref (ad 0), .int p1, .int p2] (z_pre G (wC ad G st ++ wr) sz)) (z_Qv0 G (wC ad G st ++ wr) sz (wC ad G (f_writeAbout st p1 p2) ++ wr)) 0 0 (va_A (wC ad G st ++ wr) sz) := by
  refine Met.ofW (cc := b_S_writeAbout) (maxL := 4) (ret := none) (by decide) rfl ?_
  intro p e s m args below meth c s₁ B hml hv
  obtain ⟨rfl, hsz, hP, hK, hD0, ham⟩ := hv
  subst hsz
  have hx := B.exec
  have hb := B.bytes
  have hr := B.returns
  have hts : ∀ w ∈ goT, w.before _ s = true := fun w h => atoms_spec (ws := w_S_writeAbout) B.pre w (List.mem_cons_of_mem _ h)
  have hg : ∀ w, goB w = true → w.before _ s = true := fun w h => hts w (goI h)
  have hown : s.vm.findClass R_S = some m.cls := findClass_of_methodNamed B.named
  have hlocks := B.notSynchronized
  have h0 : z_st G (wC ad G st ++ wr) s := ⟨hK, ham⟩
  have hw : z_wl G (wC ad G st ++ wr) s (wC ad G st ++ wr) s.heap [] := z_0 hP hD0
  have hl := lv_entry ([.ref (ad 0), .int p1, .int p2]) (n := 4) (Nat.le_of_ble_eq_true rfl)
  rw [lg_entry_eq]
  generalize (lg_sl ([.ref (ad 0), .int p1, .int p2]) ++ List.replicate (4 - (lg_sl ([.ref (ad 0), .int p1, .int p2])).length) Slot.unset).toArray = ls at hl ⊢
  have hl : lv_has ls 4 [(0, .ref (ad 0)), (1, .int p1), (2, .int p2)] := hl
  refine lv_aload_n hx hb d_S_writeAbout_0 rfl (lv_at hl 0 rfl) ?_
  refine lv_iload_n hx hb d_S_writeAbout_1 rfl (lv_at hl 1 rfl) ?_
  refine lv_iconst (v := 0) hx hb d_S_writeAbout_2 (by decide) ?_
  refine z_Vq0 (As := [.int p1, .int 0]) (v := (f_certificateOf st p1 0)) ⟨hx, hb, hml, hown, hts⟩ (c_S_certificateOf l G ad st wr _ p1 0 (by first | assumption | exact hI.2.2.2.1 | exact hI.2.2.2.2 | (unfold vp_in; decide) | exact Or.inr (by assumption) | exact cof_mem hI | (intro a h; cases h; assumption) | exact (hI.2.1 _ (by assumption)).1) (by first | assumption | exact hI.2.2.2.1 | exact hI.2.2.2.2 | (unfold vp_in; decide) | exact Or.inr (by assumption) | exact cof_mem hI | (intro a h; cases h; assumption) | exact (hI.2.1 _ (by assumption)).1)) (cwV 2 hts gV_S_76 rfl rfl rfl (by decide +kernel) ⟨Nat.le_of_ble_eq_true rfl, Nat.le_of_ble_eq_true rfl⟩) h0 hw 0 rfl rfl rfl rfl hl.1 rfl (Nat.le_of_ble_eq_true rfl) d_S_writeAbout_3 ⟨Nat.le_of_ble_eq_true rfl, Nat.le_of_ble_eq_true rfl⟩ (fun H locs hw => ?_)
  refine z_astore_n (r := (f_certificateOf st p1 0)) (lv' := [(3, va_rf (f_certificateOf st p1 0)), (0, .ref (ad 0)), (1, .int p1), (2, .int p2)]) hx hb d_S_writeAbout_6 rfl hl (by decide) rfl (fun ls hl => ?_)
  refine lv_aload_n hx hb d_S_writeAbout_7 rfl (lv_at hl 1 rfl) ?_
  refine va_get (D := G.1) (ci := 2) (v := .ref (ad 4)) (C := R_S) (T := T_S) (N := 14) hx hb hts in_S hown h0.1 hw.1 0 rfl rfl 3 (by decide) (hg (.fieldLink R_S 33 "SecureEntry" "log" "LSecureEntry$Log;") (by decide +kernel)) (fun _ h9 => h9) rfl d_S_writeAbout_8 ?_
  refine lv_iload_n hx hb d_S_writeAbout_11 rfl (lv_at hl 3 rfl) ?_
  refine lv_aload_n hx hb d_S_writeAbout_12 rfl (lv_at hl 1 rfl) ?_
  refine va_get (D := G.1) (ci := 2) (v := .int (st.1 4)) (C := R_S) (T := T_S) (N := 14) hx hb hts in_S hown h0.1 hw.1 0 rfl rfl 4 (by decide) (hg (.fieldLink R_S 101 "SecureEntry" "time" "I") (by decide +kernel)) (fun _ h9 => h9) rfl d_S_writeAbout_13 ?_
  refine z_aload_n (r := (f_certificateOf st p1 0)) hx hb d_S_writeAbout_16 rfl (lv_at hl 0 rfl) ?_
  refine z_ifnonnull (r := (f_certificateOf st p1 0)) (tgt := 24) hx hb d_S_writeAbout_17 (by decide) (fun e_17 => ?_) (fun a_17 e_17 => ?_)
  · have hl : lv_has ls 4 [(3, .null), (0, .ref (ad 0)), (1, .int p1), (2, .int p2)] := by rw [e_17] at hl; exact hl
    refine lv_iconst (v := (-1)) hx hb d_S_writeAbout_20 (by decide) ?_
    refine lv_goto (tgt := 28) hx hb d_S_writeAbout_21 (by decide) ?_
    refine z_Vv0 (As := [.int p2, .int (st.1 4), .int (-1)]) (ws1 := (wC ad G (f_write st p2 (st.1 4) (-1)) ++ wr)) ⟨hx, hb, hml, hown, hts⟩ (c_O_write l G ad st wr _ p2 (st.1 4) (-1) (by first | assumption | exact hI.2.2.2.1 | exact hI.2.2.2.2 | (unfold vp_in; decide) | exact Or.inr (by assumption) | exact cof_mem hI | (intro a h; cases h; assumption) | exact (hI.2.1 _ (by assumption)).1)) (cwV 3 hts gV_S_104 rfl rfl rfl (by decide +kernel) ⟨Nat.le_of_ble_eq_true rfl, Nat.le_of_ble_eq_true rfl⟩) h0 hw 4 rfl rfl rfl rfl hl.1 rfl (Nat.le_of_ble_eq_true rfl) d_S_writeAbout_28 ⟨Nat.le_of_ble_eq_true rfl, Nat.le_of_ble_eq_true rfl⟩ (fun H locs hw => ?_)
    have hI : InvC (f_write st p2 (st.1 4) (-1)) := inv_f_write hI
    exact z_vret (wf := fun _ : Unit => (wC ad G (f_writeAbout st p1 p2) ++ wr)) (u := ()) hx hb hr hlocks h0 (by rw [f_writeAbout, e_17, oel_none]; exact hw) trivial (Nat.le_of_ble_eq_true rfl) (Nat.le_of_ble_eq_true rfl) d_S_writeAbout_31
  · have hl : lv_has ls 4 [(3, .ref a_17), (0, .ref (ad 0)), (1, .int p1), (2, .int p2)] := by rw [e_17] at hl; exact hl
    have hm_a_17 : a_17 ∈ st.2.2.2.1 := cof_mem hI _ e_17
    refine lv_aload_n hx hb d_S_writeAbout_24 rfl (lv_at hl 0 rfl) ?_
    obtain ⟨k_25, hk_25⟩ := z_pool (ad := ad) (G := G) (wr := wr) (st := st) hm_a_17
    refine va_get (D := G.1) (ci := 0) (v := .int (st.2.2.2.2 a_17 2)) (C := R_C) (T := T_C) (N := 7) hx hb hts in_C hown h0.1 hw.1 k_25 hk_25 rfl 2 (by decide) (hg (.fieldLink R_S 205 "SecureEntry$Certificate" "holder" "I") (by decide +kernel)) (fun _ h9 => h9) rfl d_S_writeAbout_25 ?_
    refine z_Vv0 (As := [.int p2, .int (st.1 4), .int (st.2.2.2.2 a_17 2)]) (ws1 := (wC ad G (f_write st p2 (st.1 4) (st.2.2.2.2 a_17 2)) ++ wr)) ⟨hx, hb, hml, hown, hts⟩ (c_O_write l G ad st wr _ p2 (st.1 4) (st.2.2.2.2 a_17 2) (by first | assumption | exact hI.2.2.2.1 | exact hI.2.2.2.2 | (unfold vp_in; decide) | exact Or.inr (by assumption) | exact cof_mem hI | (intro a h; cases h; assumption) | exact (hI.2.1 _ (by assumption)).1)) (cwV 3 hts gV_S_104 rfl rfl rfl (by decide +kernel) ⟨Nat.le_of_ble_eq_true rfl, Nat.le_of_ble_eq_true rfl⟩) h0 hw 4 rfl rfl rfl rfl hl.1 rfl (Nat.le_of_ble_eq_true rfl) d_S_writeAbout_28 ⟨Nat.le_of_ble_eq_true rfl, Nat.le_of_ble_eq_true rfl⟩ (fun H locs hw => ?_)
    have hI : InvC (f_write st p2 (st.1 4) (st.2.2.2.2 a_17 2)) := inv_f_write hI
    exact z_vret (wf := fun _ : Unit => (wC ad G (f_writeAbout st p1 p2) ++ wr)) (u := ()) hx hb hr hlocks h0 (by rw [f_writeAbout, e_17, oel_some]; exact hw) trivial (Nat.le_of_ble_eq_true rfl) (Nat.le_of_ble_eq_true rfl) d_S_writeAbout_31
set_option maxHeartbeats 4000000 in
set_option maxRecDepth 100000 in
theorem c_S_allowEntry (l : Launch) (G : gG) (ad : Nat → Nat) (st : CS) (wr : va_W) (sz : Nat)  (hI : InvC st) : Met l y_S_allowEntry w_S_allowEntry { frames := 4, cells := 0, slots := 0, locals := 106 } (va_Pc [.ref (ad 0)] (z_pre G (wC ad G st ++ wr) sz)) (z_Qv0 G (wC ad G st ++ wr) sz (wC ad G (f_allowEntry st) ++ wr)) 0 0 (va_A (wC ad G st ++ wr) sz) := by
  refine Met.ofW (cc := b_S_allowEntry) (maxL := 1) (ret := none) (by decide) rfl ?_
  intro p e s m args below meth c s₁ B hml hv
  obtain ⟨rfl, hsz, hP, hK, hD0, ham⟩ := hv
  subst hsz
  have hx := B.exec
  have hb := B.bytes
  have hr := B.returns
  have hts : ∀ w ∈ goT, w.before _ s = true := fun w h => atoms_spec (ws := w_S_allowEntry) B.pre w (List.mem_cons_of_mem _ h)
  have hg : ∀ w, goB w = true → w.before _ s = true := fun w h => hts w (goI h)
  have hown : s.vm.findClass R_S = some m.cls := findClass_of_methodNamed B.named
  have hlocks := B.notSynchronized
  have h0 : z_st G (wC ad G st ++ wr) s := ⟨hK, ham⟩
  have hw : z_wl G (wC ad G st ++ wr) s (wC ad G st ++ wr) s.heap [] := z_0 hP hD0
  have hl := lv_entry ([.ref (ad 0)]) (n := 1) (Nat.le_of_ble_eq_true rfl)
  rw [lg_entry_eq]
  generalize (lg_sl ([.ref (ad 0)]) ++ List.replicate (1 - (lg_sl ([.ref (ad 0)])).length) Slot.unset).toArray = ls at hl ⊢
  have hl : lv_has ls 1 [(0, .ref (ad 0))] := hl
  refine lv_aload_n hx hb d_S_allowEntry_0 rfl (lv_at hl 0 rfl) ?_
  refine lv_iconst (v := 2) hx hb d_S_allowEntry_1 (by decide) ?_
  refine z_Vv0 (As := [.int 2]) (ws1 := (wC ad G (f_becomeUserState st 2) ++ wr)) ⟨hx, hb, hml, hown, hts⟩ (c_S_becomeUserState l G ad st wr _ 2) (cwV 1 hts gV_S_98 rfl rfl rfl (by decide +kernel) ⟨Nat.le_of_ble_eq_true rfl, Nat.le_of_ble_eq_true rfl⟩) h0 hw 0 rfl rfl rfl rfl hl.1 rfl (Nat.le_of_ble_eq_true rfl) d_S_allowEntry_2 ⟨Nat.le_of_ble_eq_true rfl, Nat.le_of_ble_eq_true rfl⟩ (fun H locs hw => ?_)
  have hI : InvC (f_becomeUserState st 2) := inv_f_becomeUserState hI
  refine lv_aload_n hx hb d_S_allowEntry_5 rfl (lv_at hl 0 rfl) ?_
  refine lv_aload_n hx hb d_S_allowEntry_6 rfl (lv_at hl 0 rfl) ?_
  refine va_get (D := G.1) (ci := 2) (v := .int ((f_becomeUserState st 2).1 8)) (C := R_S) (T := T_S) (N := 14) hx hb hts in_S hown h0.1 hw.1 0 rfl rfl 8 (by decide) (hg (.fieldLink R_S 41 "SecureEntry" "outerToken" "I") (by decide +kernel)) (fun _ h9 => h9) rfl d_S_allowEntry_7 ?_
  refine lv_bipush (v := 7) hx hb d_S_allowEntry_10 (by decide) ?_
  refine z_Vv0 (As := [.int ((f_becomeUserState st 2).1 8), .int 7]) (ws1 := (wC ad G (f_writeAbout (f_becomeUserState st 2) ((f_becomeUserState st 2).1 8) 7) ++ wr)) ⟨hx, hb, hml, hown, hts⟩ (c_S_writeAbout l G ad (f_becomeUserState st 2) wr _ ((f_becomeUserState st 2).1 8) 7 (by first | assumption | exact hI.2.2.2.1 | exact hI.2.2.2.2 | (unfold vp_in; decide) | exact Or.inr (by assumption) | exact cof_mem hI | (intro a h; cases h; assumption) | exact (hI.2.1 _ (by assumption)).1) (by first | assumption | exact hI.2.2.2.1 | exact hI.2.2.2.2 | (unfold vp_in; decide) | exact Or.inr (by assumption) | exact cof_mem hI | (intro a h; cases h; assumption) | exact (hI.2.1 _ (by assumption)).1)) (cwV 2 hts gV_S_114 rfl rfl rfl (by decide +kernel) ⟨Nat.le_of_ble_eq_true rfl, Nat.le_of_ble_eq_true rfl⟩) h0 hw 0 rfl rfl rfl rfl hl.1 rfl (Nat.le_of_ble_eq_true rfl) d_S_allowEntry_12 ⟨Nat.le_of_ble_eq_true rfl, Nat.le_of_ble_eq_true rfl⟩ (fun H locs hw => ?_)
  have hI : InvC (f_writeAbout (f_becomeUserState st 2) ((f_becomeUserState st 2).1 8) 7) := inv_f_writeAbout hI
  exact z_vret (wf := fun _ : Unit => (wC ad G (f_allowEntry st) ++ wr)) (u := ()) hx hb hr hlocks h0 (by rw [f_allowEntry]; exact hw) trivial (Nat.le_of_ble_eq_true rfl) (Nat.le_of_ble_eq_true rfl) d_S_allowEntry_15
set_option maxHeartbeats 4000000 in
set_option maxRecDepth 100000 in
theorem c_S_turnAway (l : Launch) (G : gG) (ad : Nat → Nat) (st : CS) (wr : va_W) (sz : Nat) (p1 : Int32) (hI : InvC st) : Met l y_S_turnAway w_S_turnAway { frames := 4, cells := 0, slots := 0, locals := 106 } (va_Pc [.ref (ad 0), .int p1] (z_pre G (wC ad G st ++ wr) sz)) (z_Qv0 G (wC ad G st ++ wr) sz (wC ad G (f_turnAway st p1) ++ wr)) 0 0 (va_A (wC ad G st ++ wr) sz) := by
  refine Met.ofW (cc := b_S_turnAway) (maxL := 2) (ret := none) (by decide) rfl ?_
  intro p e s m args below meth c s₁ B hml hv
  obtain ⟨rfl, hsz, hP, hK, hD0, ham⟩ := hv
  subst hsz
  have hx := B.exec
  have hb := B.bytes
  have hr := B.returns
  have hts : ∀ w ∈ goT, w.before _ s = true := fun w h => atoms_spec (ws := w_S_turnAway) B.pre w (List.mem_cons_of_mem _ h)
  have hg : ∀ w, goB w = true → w.before _ s = true := fun w h => hts w (goI h)
  have hown : s.vm.findClass R_S = some m.cls := findClass_of_methodNamed B.named
  have hlocks := B.notSynchronized
  have h0 : z_st G (wC ad G st ++ wr) s := ⟨hK, ham⟩
  have hw : z_wl G (wC ad G st ++ wr) s (wC ad G st ++ wr) s.heap [] := z_0 hP hD0
  have hl := lv_entry ([.ref (ad 0), .int p1]) (n := 2) (Nat.le_of_ble_eq_true rfl)
  rw [lg_entry_eq]
  generalize (lg_sl ([.ref (ad 0), .int p1]) ++ List.replicate (2 - (lg_sl ([.ref (ad 0), .int p1])).length) Slot.unset).toArray = ls at hl ⊢
  have hl : lv_has ls 2 [(0, .ref (ad 0)), (1, .int p1)] := hl
  refine lv_aload_n hx hb d_S_turnAway_0 rfl (lv_at hl 0 rfl) ?_
  refine lv_iconst (v := 3) hx hb d_S_turnAway_1 (by decide) ?_
  refine z_Vv0 (As := [.int 3]) (ws1 := (wC ad G (f_becomeUserState st 3) ++ wr)) ⟨hx, hb, hml, hown, hts⟩ (c_S_becomeUserState l G ad st wr _ 3) (cwV 1 hts gV_S_98 rfl rfl rfl (by decide +kernel) ⟨Nat.le_of_ble_eq_true rfl, Nat.le_of_ble_eq_true rfl⟩) h0 hw 0 rfl rfl rfl rfl hl.1 rfl (Nat.le_of_ble_eq_true rfl) d_S_turnAway_2 ⟨Nat.le_of_ble_eq_true rfl, Nat.le_of_ble_eq_true rfl⟩ (fun H locs hw => ?_)
  have hI : InvC (f_becomeUserState st 3) := inv_f_becomeUserState hI
  refine lv_aload_n hx hb d_S_turnAway_5 rfl (lv_at hl 0 rfl) ?_
  refine lv_aload_n hx hb d_S_turnAway_6 rfl (lv_at hl 0 rfl) ?_
  refine va_get (D := G.1) (ci := 2) (v := .int ((f_becomeUserState st 3).1 8)) (C := R_S) (T := T_S) (N := 14) hx hb hts in_S hown h0.1 hw.1 0 rfl rfl 8 (by decide) (hg (.fieldLink R_S 41 "SecureEntry" "outerToken" "I") (by decide +kernel)) (fun _ h9 => h9) rfl d_S_turnAway_7 ?_
  refine lv_iload_n hx hb d_S_turnAway_10 rfl (lv_at hl 1 rfl) ?_
  refine z_Vv0 (As := [.int ((f_becomeUserState st 3).1 8), .int p1]) (ws1 := (wC ad G (f_writeAbout (f_becomeUserState st 3) ((f_becomeUserState st 3).1 8) p1) ++ wr)) ⟨hx, hb, hml, hown, hts⟩ (c_S_writeAbout l G ad (f_becomeUserState st 3) wr _ ((f_becomeUserState st 3).1 8) p1 (by first | assumption | exact hI.2.2.2.1 | exact hI.2.2.2.2 | (unfold vp_in; decide) | exact Or.inr (by assumption) | exact cof_mem hI | (intro a h; cases h; assumption) | exact (hI.2.1 _ (by assumption)).1) (by first | assumption | exact hI.2.2.2.1 | exact hI.2.2.2.2 | (unfold vp_in; decide) | exact Or.inr (by assumption) | exact cof_mem hI | (intro a h; cases h; assumption) | exact (hI.2.1 _ (by assumption)).1)) (cwV 2 hts gV_S_114 rfl rfl rfl (by decide +kernel) ⟨Nat.le_of_ble_eq_true rfl, Nat.le_of_ble_eq_true rfl⟩) h0 hw 0 rfl rfl rfl rfl hl.1 rfl (Nat.le_of_ble_eq_true rfl) d_S_turnAway_11 ⟨Nat.le_of_ble_eq_true rfl, Nat.le_of_ble_eq_true rfl⟩ (fun H locs hw => ?_)
  have hI : InvC (f_writeAbout (f_becomeUserState st 3) ((f_becomeUserState st 3).1 8) p1) := inv_f_writeAbout hI
  exact z_vret (wf := fun _ : Unit => (wC ad G (f_turnAway st p1) ++ wr)) (u := ()) hx hb hr hlocks h0 (by rw [f_turnAway]; exact hw) trivial (Nat.le_of_ble_eq_true rfl) (Nat.le_of_ble_eq_true rfl) d_S_turnAway_14
set_option maxHeartbeats 4000000 in
set_option maxRecDepth 100000 in
theorem c_S_dismissAdministrator (l : Launch) (G : gG) (ad : Nat → Nat) (st : CS) (wr : va_W) (sz : Nat)  (hI : InvC st) : Met l y_S_dismissAdministrator w_S_dismissAdministrator { frames := 4, cells := 0, slots := 0, locals := 106 } (va_Pc [.ref (ad 0)] (z_pre G (wC ad G st ++ wr) sz)) (z_Qv0 G (wC ad G st ++ wr) sz (wC ad G (f_dismissAdministrator st) ++ wr)) 0 0 (va_A (wC ad G st ++ wr) sz) := by
  refine Met.ofW (cc := b_S_dismissAdministrator) (maxL := 1) (ret := none) (by decide) rfl ?_
  intro p e s m args below meth c s₁ B hml hv
  obtain ⟨rfl, hsz, hP, hK, hD0, ham⟩ := hv
  subst hsz
  have hx := B.exec
  have hb := B.bytes
  have hr := B.returns
  have hts : ∀ w ∈ goT, w.before _ s = true := fun w h => atoms_spec (ws := w_S_dismissAdministrator) B.pre w (List.mem_cons_of_mem _ h)
  have hg : ∀ w, goB w = true → w.before _ s = true := fun w h => hts w (goI h)
  have hown : s.vm.findClass R_S = some m.cls := findClass_of_methodNamed B.named
  have hlocks := B.notSynchronized
  have h0 : z_st G (wC ad G st ++ wr) s := ⟨hK, ham⟩
  have hw : z_wl G (wC ad G st ++ wr) s (wC ad G st ++ wr) s.heap [] := z_0 hP hD0
  have hl := lv_entry ([.ref (ad 0)]) (n := 1) (Nat.le_of_ble_eq_true rfl)
  rw [lg_entry_eq]
  generalize (lg_sl ([.ref (ad 0)]) ++ List.replicate (1 - (lg_sl ([.ref (ad 0)])).length) Slot.unset).toArray = ls at hl ⊢
  have hl : lv_has ls 1 [(0, .ref (ad 0))] := hl
  refine lv_aload_n hx hb d_S_dismissAdministrator_0 rfl (lv_at hl 0 rfl) ?_
  refine lv_iconst (v := 0) hx hb d_S_dismissAdministrator_1 (by decide) ?_
  refine va_put (D := G.1) (ci := 2) (v := .int 0) (ty := .int) (C := R_S) (T := T_S) (N := 14) hx hb hts in_S ty_S ty_S_ok n_S hown h0.1 hw.1 hw.2.1 hw.2.2 0 rfl rfl 10 (by decide) (hg (.fieldLink R_S 47 "SecureEntry" "administratorRole" "I") (by decide +kernel)) (fun _ h9 => h9) rfl (by decide +kernel) rfl rfl (Nat.le_of_ble_eq_true rfl) d_S_dismissAdministrator_2 (fun H locs hP hD hS => ?_)
  have hI : InvC (sS st 10 0) := inv_sS hI (by decide)
  have hw : z_wl G (wC ad G st ++ wr) s (wC ad G (sS st 10 0) ++ wr) H locs := ⟨hP, hD, hS⟩
  refine lv_aload_n hx hb d_S_dismissAdministrator_5 rfl (lv_at hl 0 rfl) ?_
  refine lv_aload_n hx hb d_S_dismissAdministrator_6 rfl (lv_at hl 0 rfl) ?_
  refine va_get (D := G.1) (ci := 2) (v := .int (st.1 9)) (C := R_S) (T := T_S) (N := 14) hx hb hts in_S hown h0.1 hw.1 0 rfl rfl 9 (by decide) (hg (.fieldLink R_S 44 "SecureEntry" "innerToken" "I") (by decide +kernel)) (fun _ h9 => h9) rfl d_S_dismissAdministrator_7 ?_
  refine lv_bipush (v := 11) hx hb d_S_dismissAdministrator_10 (by decide) ?_
  refine z_Vv0 (As := [.int (st.1 9), .int 11]) (ws1 := (wC ad G (f_writeAbout (sS st 10 0) (st.1 9) 11) ++ wr)) ⟨hx, hb, hml, hown, hts⟩ (c_S_writeAbout l G ad (sS st 10 0) wr _ (st.1 9) 11 (by first | assumption | exact hI.2.2.2.1 | exact hI.2.2.2.2 | (unfold vp_in; decide) | exact Or.inr (by assumption) | exact cof_mem hI | (intro a h; cases h; assumption) | exact (hI.2.1 _ (by assumption)).1) (by first | assumption | exact hI.2.2.2.1 | exact hI.2.2.2.2 | (unfold vp_in; decide) | exact Or.inr (by assumption) | exact cof_mem hI | (intro a h; cases h; assumption) | exact (hI.2.1 _ (by assumption)).1)) (cwV 2 hts gV_S_114 rfl rfl rfl (by decide +kernel) ⟨Nat.le_of_ble_eq_true rfl, Nat.le_of_ble_eq_true rfl⟩) h0 hw 0 rfl rfl rfl rfl hl.1 rfl (Nat.le_of_ble_eq_true rfl) d_S_dismissAdministrator_12 ⟨Nat.le_of_ble_eq_true rfl, Nat.le_of_ble_eq_true rfl⟩ (fun H locs hw => ?_)
  have hI : InvC (f_writeAbout (sS st 10 0) (st.1 9) 11) := inv_f_writeAbout hI
  exact z_vret (wf := fun _ : Unit => (wC ad G (f_dismissAdministrator st) ++ wr)) (u := ()) hx hb hr hlocks h0 (by rw [f_dismissAdministrator]; exact hw) trivial (Nat.le_of_ble_eq_true rfl) (Nat.le_of_ble_eq_true rfl) d_S_dismissAdministrator_15
set_option maxHeartbeats 4000000 in
set_option maxRecDepth 100000 in
theorem c_S_endWaitingInTime (l : Launch) (G : gG) (ad : Nat → Nat) (st : CS) (wr : va_W) (sz : Nat)  (hI : InvC st) : Met l y_S_endWaitingInTime w_S_endWaitingInTime { frames := 5, cells := 0, slots := 0, locals := 127 } (va_Pc [.ref (ad 0)] (z_pre G (wC ad G st ++ wr) sz)) (z_Qv0 G (wC ad G st ++ wr) sz (wC ad G (f_endWaitingInTime st) ++ wr)) 0 0 (va_A (wC ad G st ++ wr) sz) := by
  refine Met.ofW (cc := b_S_endWaitingInTime) (maxL := 2) (ret := none) (by decide) rfl ?_
  intro p e s m args below meth c s₁ B hml hv
  obtain ⟨rfl, hsz, hP, hK, hD0, ham⟩ := hv
  subst hsz
  have hx := B.exec
  have hb := B.bytes
  have hr := B.returns
  have hts : ∀ w ∈ goT, w.before _ s = true := fun w h => atoms_spec (ws := w_S_endWaitingInTime) B.pre w (List.mem_cons_of_mem _ h)
  have hg : ∀ w, goB w = true → w.before _ s = true := fun w h => hts w (goI h)
  have hown : s.vm.findClass R_S = some m.cls := findClass_of_methodNamed B.named
  have hlocks := B.notSynchronized
  have h0 : z_st G (wC ad G st ++ wr) s := ⟨hK, ham⟩
  have hw : z_wl G (wC ad G st ++ wr) s (wC ad G st ++ wr) s.heap [] := z_0 hP hD0
  have hl := lv_entry ([.ref (ad 0)]) (n := 2) (Nat.le_of_ble_eq_true rfl)
  rw [lg_entry_eq]
  generalize (lg_sl ([.ref (ad 0)]) ++ List.replicate (2 - (lg_sl ([.ref (ad 0)])).length) Slot.unset).toArray = ls at hl ⊢
  have hl : lv_has ls 2 [(0, .ref (ad 0))] := hl
  refine lv_aload_n hx hb d_S_endWaitingInTime_0 rfl (lv_at hl 0 rfl) ?_
  refine va_get (D := G.1) (ci := 2) (v := .int (st.1 6)) (C := R_S) (T := T_S) (N := 14) hx hb hts in_S hown h0.1 hw.1 0 rfl rfl 6 (by decide) (hg (.fieldLink R_S 37 "SecureEntry" "userState" "I") (by decide +kernel)) (fun _ h9 => h9) rfl d_S_endWaitingInTime_1 ?_
  refine lv_iconst (v := 1) hx hb d_S_endWaitingInTime_4 (by decide) ?_
  refine lv_icmp_eq (tgt := 16) hx hb d_S_endWaitingInTime_5 (by decide) (fun c_5 => ?_) (fun c_5 => ?_)
  · refine lv_iconst (v := 1) hx hb d_S_endWaitingInTime_16 (by decide) ?_
    refine lv_goto (tgt := 21) hx hb d_S_endWaitingInTime_17 (by decide) ?_
    refine lv_istore_n (lv' := [(1, .int 1), (0, .ref (ad 0))]) hx hb d_S_endWaitingInTime_21 rfl hl (by decide) rfl (fun ls hl => ?_)
    refine lv_iload_n hx hb d_S_endWaitingInTime_22 rfl (lv_at hl 0 rfl) ?_
    refine lv_if_eq (tgt := 50) hx hb d_S_endWaitingInTime_23 (by decide) (fun c_23 => ?_) (fun c_23 => ?_)
    · exact absurd c_23 (by decide)
    · refine lv_aload_n hx hb d_S_endWaitingInTime_26 rfl (lv_at hl 1 rfl) ?_
      refine va_get (D := G.1) (ci := 2) (v := .int (st.1 4)) (C := R_S) (T := T_S) (N := 14) hx hb hts in_S hown h0.1 hw.1 0 rfl rfl 4 (by decide) (hg (.fieldLink R_S 101 "SecureEntry" "time" "I") (by decide +kernel)) (fun _ h9 => h9) rfl d_S_endWaitingInTime_27 ?_
      refine lv_aload_n hx hb d_S_endWaitingInTime_30 rfl (lv_at hl 1 rfl) ?_
      refine va_get (D := G.1) (ci := 2) (v := .int (st.1 7)) (C := R_S) (T := T_S) (N := 14) hx hb hts in_S hown h0.1 hw.1 0 rfl rfl 7 (by decide) (hg (.fieldLink R_S 263 "SecureEntry" "userStateSince" "I") (by decide +kernel)) (fun _ h9 => h9) rfl d_S_endWaitingInTime_31 ?_
      refine lv_isub hx hb d_S_endWaitingInTime_34 ?_
      refine lv_aload_n hx hb d_S_endWaitingInTime_35 rfl (lv_at hl 1 rfl) ?_
      refine va_get (D := G.1) (ci := 2) (v := .ref (ad 1)) (C := R_S) (T := T_S) (N := 14) hx hb hts in_S hown h0.1 hw.1 0 rfl rfl 0 (by decide) (hg (.fieldLink R_S 18 "SecureEntry" "configuration" "[I") (by decide +kernel)) (fun _ h9 => h9) rfl d_S_endWaitingInTime_36 ?_
      refine lv_iconst (v := 2) hx hb d_S_endWaitingInTime_39 (by decide) ?_
      refine va_iald hx hb h0.1 hw.1 1 0 rfl rfl (show vp_in 2 6 by unfold vp_in; decide) d_S_endWaitingInTime_40 ?_
      refine lv_icmp_lt (tgt := 50) hx hb d_S_endWaitingInTime_41 (by decide) (fun c_41 => ?_) (fun c_41 => ?_)
      · exact z_vret (wf := fun _ : Unit => (wC ad G (f_endWaitingInTime st) ++ wr)) (u := ()) hx hb hr hlocks h0 (by rw [f_endWaitingInTime, if_pos c_5, if_pos c_41]; exact hw) trivial (Nat.le_of_ble_eq_true rfl) (Nat.le_of_ble_eq_true rfl) d_S_endWaitingInTime_50
      · refine lv_aload_n hx hb d_S_endWaitingInTime_44 rfl (lv_at hl 1 rfl) ?_
        refine lv_bipush (v := 6) hx hb d_S_endWaitingInTime_45 (by decide) ?_
        refine z_Vv0 (As := [.int 6]) (ws1 := (wC ad G (f_turnAway st 6) ++ wr)) ⟨hx, hb, hml, hown, hts⟩ (c_S_turnAway l G ad st wr _ 6 (by first | assumption | exact hI.2.2.2.1 | exact hI.2.2.2.2 | (unfold vp_in; decide) | exact Or.inr (by assumption) | exact cof_mem hI | (intro a h; cases h; assumption) | exact (hI.2.1 _ (by assumption)).1)) (cwV 1 hts gV_S_127 rfl rfl rfl (by decide +kernel) ⟨Nat.le_of_ble_eq_true rfl, Nat.le_of_ble_eq_true rfl⟩) h0 hw 0 rfl rfl rfl rfl hl.1 rfl (Nat.le_of_ble_eq_true rfl) d_S_endWaitingInTime_47 ⟨Nat.le_of_ble_eq_true rfl, Nat.le_of_ble_eq_true rfl⟩ (fun H locs hw => ?_)
        have hI : InvC (f_turnAway st 6) := inv_f_turnAway hI
        exact z_vret (wf := fun _ : Unit => (wC ad G (f_endWaitingInTime st) ++ wr)) (u := ()) hx hb hr hlocks h0 (by rw [f_endWaitingInTime, if_pos c_5, if_neg c_41]; exact hw) trivial (Nat.le_of_ble_eq_true rfl) (Nat.le_of_ble_eq_true rfl) d_S_endWaitingInTime_50
  · refine lv_aload_n hx hb d_S_endWaitingInTime_8 rfl (lv_at hl 0 rfl) ?_
    refine va_get (D := G.1) (ci := 2) (v := .int (st.1 6)) (C := R_S) (T := T_S) (N := 14) hx hb hts in_S hown h0.1 hw.1 0 rfl rfl 6 (by decide) (hg (.fieldLink R_S 37 "SecureEntry" "userState" "I") (by decide +kernel)) (fun _ h9 => h9) rfl d_S_endWaitingInTime_9 ?_
    refine lv_iconst (v := 2) hx hb d_S_endWaitingInTime_12 (by decide) ?_
    refine lv_icmp_ne (tgt := 20) hx hb d_S_endWaitingInTime_13 (by decide) (fun c_13 => ?_) (fun c_13 => ?_)
    · refine lv_iconst (v := 0) hx hb d_S_endWaitingInTime_20 (by decide) ?_
      refine lv_istore_n (lv' := [(1, .int 0), (0, .ref (ad 0))]) hx hb d_S_endWaitingInTime_21 rfl hl (by decide) rfl (fun ls hl => ?_)
      refine lv_iload_n hx hb d_S_endWaitingInTime_22 rfl (lv_at hl 0 rfl) ?_
      refine lv_if_eq (tgt := 50) hx hb d_S_endWaitingInTime_23 (by decide) (fun c_23 => ?_) (fun c_23 => ?_)
      · exact z_vret (wf := fun _ : Unit => (wC ad G (f_endWaitingInTime st) ++ wr)) (u := ()) hx hb hr hlocks h0 (by rw [f_endWaitingInTime, if_neg c_5, if_neg c_13]; exact hw) trivial (Nat.le_of_ble_eq_true rfl) (Nat.le_of_ble_eq_true rfl) d_S_endWaitingInTime_50
      · exact absurd (by decide) c_23
    · refine lv_iconst (v := 1) hx hb d_S_endWaitingInTime_16 (by decide) ?_
      refine lv_goto (tgt := 21) hx hb d_S_endWaitingInTime_17 (by decide) ?_
      refine lv_istore_n (lv' := [(1, .int 1), (0, .ref (ad 0))]) hx hb d_S_endWaitingInTime_21 rfl hl (by decide) rfl (fun ls hl => ?_)
      refine lv_iload_n hx hb d_S_endWaitingInTime_22 rfl (lv_at hl 0 rfl) ?_
      refine lv_if_eq (tgt := 50) hx hb d_S_endWaitingInTime_23 (by decide) (fun c_23 => ?_) (fun c_23 => ?_)
      · exact absurd c_23 (by decide)
      · refine lv_aload_n hx hb d_S_endWaitingInTime_26 rfl (lv_at hl 1 rfl) ?_
        refine va_get (D := G.1) (ci := 2) (v := .int (st.1 4)) (C := R_S) (T := T_S) (N := 14) hx hb hts in_S hown h0.1 hw.1 0 rfl rfl 4 (by decide) (hg (.fieldLink R_S 101 "SecureEntry" "time" "I") (by decide +kernel)) (fun _ h9 => h9) rfl d_S_endWaitingInTime_27 ?_
        refine lv_aload_n hx hb d_S_endWaitingInTime_30 rfl (lv_at hl 1 rfl) ?_
        refine va_get (D := G.1) (ci := 2) (v := .int (st.1 7)) (C := R_S) (T := T_S) (N := 14) hx hb hts in_S hown h0.1 hw.1 0 rfl rfl 7 (by decide) (hg (.fieldLink R_S 263 "SecureEntry" "userStateSince" "I") (by decide +kernel)) (fun _ h9 => h9) rfl d_S_endWaitingInTime_31 ?_
        refine lv_isub hx hb d_S_endWaitingInTime_34 ?_
        refine lv_aload_n hx hb d_S_endWaitingInTime_35 rfl (lv_at hl 1 rfl) ?_
        refine va_get (D := G.1) (ci := 2) (v := .ref (ad 1)) (C := R_S) (T := T_S) (N := 14) hx hb hts in_S hown h0.1 hw.1 0 rfl rfl 0 (by decide) (hg (.fieldLink R_S 18 "SecureEntry" "configuration" "[I") (by decide +kernel)) (fun _ h9 => h9) rfl d_S_endWaitingInTime_36 ?_
        refine lv_iconst (v := 2) hx hb d_S_endWaitingInTime_39 (by decide) ?_
        refine va_iald hx hb h0.1 hw.1 1 0 rfl rfl (show vp_in 2 6 by unfold vp_in; decide) d_S_endWaitingInTime_40 ?_
        refine lv_icmp_lt (tgt := 50) hx hb d_S_endWaitingInTime_41 (by decide) (fun c_41 => ?_) (fun c_41 => ?_)
        · exact z_vret (wf := fun _ : Unit => (wC ad G (f_endWaitingInTime st) ++ wr)) (u := ()) hx hb hr hlocks h0 (by rw [f_endWaitingInTime, if_neg c_5, if_pos c_13, if_pos c_41]; exact hw) trivial (Nat.le_of_ble_eq_true rfl) (Nat.le_of_ble_eq_true rfl) d_S_endWaitingInTime_50
        · refine lv_aload_n hx hb d_S_endWaitingInTime_44 rfl (lv_at hl 1 rfl) ?_
          refine lv_bipush (v := 6) hx hb d_S_endWaitingInTime_45 (by decide) ?_
          refine z_Vv0 (As := [.int 6]) (ws1 := (wC ad G (f_turnAway st 6) ++ wr)) ⟨hx, hb, hml, hown, hts⟩ (c_S_turnAway l G ad st wr _ 6 (by first | assumption | exact hI.2.2.2.1 | exact hI.2.2.2.2 | (unfold vp_in; decide) | exact Or.inr (by assumption) | exact cof_mem hI | (intro a h; cases h; assumption) | exact (hI.2.1 _ (by assumption)).1)) (cwV 1 hts gV_S_127 rfl rfl rfl (by decide +kernel) ⟨Nat.le_of_ble_eq_true rfl, Nat.le_of_ble_eq_true rfl⟩) h0 hw 0 rfl rfl rfl rfl hl.1 rfl (Nat.le_of_ble_eq_true rfl) d_S_endWaitingInTime_47 ⟨Nat.le_of_ble_eq_true rfl, Nat.le_of_ble_eq_true rfl⟩ (fun H locs hw => ?_)
          have hI : InvC (f_turnAway st 6) := inv_f_turnAway hI
          exact z_vret (wf := fun _ : Unit => (wC ad G (f_endWaitingInTime st) ++ wr)) (u := ()) hx hb hr hlocks h0 (by rw [f_endWaitingInTime, if_neg c_5, if_pos c_13, if_neg c_41]; exact hw) trivial (Nat.le_of_ble_eq_true rfl) (Nat.le_of_ble_eq_true rfl) d_S_endWaitingInTime_50
set_option maxHeartbeats 4000000 in
set_option maxRecDepth 100000 in
theorem c_S_endAdministrationInTime (l : Launch) (G : gG) (ad : Nat → Nat) (st : CS) (wr : va_W) (sz : Nat)  (hI : InvC st) : Met l y_S_endAdministrationInTime w_S_endAdministrationInTime { frames := 5, cells := 0, slots := 0, locals := 126 } (va_Pc [.ref (ad 0)] (z_pre G (wC ad G st ++ wr) sz)) (z_Qv0 G (wC ad G st ++ wr) sz (wC ad G (f_endAdministrationInTime st) ++ wr)) 0 0 (va_A (wC ad G st ++ wr) sz) := by
  refine Met.ofW (cc := b_S_endAdministrationInTime) (maxL := 1) (ret := none) (by decide) rfl ?_
  intro p e s m args below meth c s₁ B hml hv
  obtain ⟨rfl, hsz, hP, hK, hD0, ham⟩ := hv
  subst hsz
  have hx := B.exec
  have hb := B.bytes
  have hr := B.returns
  have hts : ∀ w ∈ goT, w.before _ s = true := fun w h => atoms_spec (ws := w_S_endAdministrationInTime) B.pre w (List.mem_cons_of_mem _ h)
  have hg : ∀ w, goB w = true → w.before _ s = true := fun w h => hts w (goI h)
  have hown : s.vm.findClass R_S = some m.cls := findClass_of_methodNamed B.named
  have hlocks := B.notSynchronized
  have h0 : z_st G (wC ad G st ++ wr) s := ⟨hK, ham⟩
  have hw : z_wl G (wC ad G st ++ wr) s (wC ad G st ++ wr) s.heap [] := z_0 hP hD0
  have hl := lv_entry ([.ref (ad 0)]) (n := 1) (Nat.le_of_ble_eq_true rfl)
  rw [lg_entry_eq]
  generalize (lg_sl ([.ref (ad 0)]) ++ List.replicate (1 - (lg_sl ([.ref (ad 0)])).length) Slot.unset).toArray = ls at hl ⊢
  have hl : lv_has ls 1 [(0, .ref (ad 0))] := hl
  refine lv_aload_n hx hb d_S_endAdministrationInTime_0 rfl (lv_at hl 0 rfl) ?_
  refine va_get (D := G.1) (ci := 2) (v := .int (st.1 10)) (C := R_S) (T := T_S) (N := 14) hx hb hts in_S hown h0.1 hw.1 0 rfl rfl 10 (by decide) (hg (.fieldLink R_S 47 "SecureEntry" "administratorRole" "I") (by decide +kernel)) (fun _ h9 => h9) rfl d_S_endAdministrationInTime_1 ?_
  refine lv_if_eq (tgt := 27) hx hb d_S_endAdministrationInTime_4 (by decide) (fun c_4 => ?_) (fun c_4 => ?_)
  · exact z_vret (wf := fun _ : Unit => (wC ad G (f_endAdministrationInTime st) ++ wr)) (u := ()) hx hb hr hlocks h0 (by rw [f_endAdministrationInTime, if_pos c_4]; exact hw) trivial (Nat.le_of_ble_eq_true rfl) (Nat.le_of_ble_eq_true rfl) d_S_endAdministrationInTime_27
  · refine lv_aload_n hx hb d_S_endAdministrationInTime_7 rfl (lv_at hl 0 rfl) ?_
    refine lv_aload_n hx hb d_S_endAdministrationInTime_8 rfl (lv_at hl 0 rfl) ?_
    refine lv_aload_n hx hb d_S_endAdministrationInTime_9 rfl (lv_at hl 0 rfl) ?_
    refine va_get (D := G.1) (ci := 2) (v := .int (st.1 9)) (C := R_S) (T := T_S) (N := 14) hx hb hts in_S hown h0.1 hw.1 0 rfl rfl 9 (by decide) (hg (.fieldLink R_S 44 "SecureEntry" "innerToken" "I") (by decide +kernel)) (fun _ h9 => h9) rfl d_S_endAdministrationInTime_10 ?_
    refine lv_iconst (v := 3) hx hb d_S_endAdministrationInTime_13 (by decide) ?_
    refine z_Vq0 (As := [.int (st.1 9), .int 3]) (v := (f_certificateOf st (st.1 9) 3)) ⟨hx, hb, hml, hown, hts⟩ (c_S_certificateOf l G ad st wr _ (st.1 9) 3 (by first | assumption | exact hI.2.2.2.1 | exact hI.2.2.2.2 | (unfold vp_in; decide) | exact Or.inr (by assumption) | exact cof_mem hI | (intro a h; cases h; assumption) | exact (hI.2.1 _ (by assumption)).1) (by first | assumption | exact hI.2.2.2.1 | exact hI.2.2.2.2 | (unfold vp_in; decide) | exact Or.inr (by assumption) | exact cof_mem hI | (intro a h; cases h; assumption) | exact (hI.2.1 _ (by assumption)).1)) (cwV 2 hts gV_S_76 rfl rfl rfl (by decide +kernel) ⟨Nat.le_of_ble_eq_true rfl, Nat.le_of_ble_eq_true rfl⟩) h0 hw 0 rfl rfl rfl rfl hl.1 rfl (Nat.le_of_ble_eq_true rfl) d_S_endAdministrationInTime_14 ⟨Nat.le_of_ble_eq_true rfl, Nat.le_of_ble_eq_true rfl⟩ (fun H locs hw => ?_)
    refine z_Vi0 (As := [va_rf (f_certificateOf st (st.1 9) 3)]) (v := (f_isValid st (f_certificateOf st (st.1 9) 3))) ⟨hx, hb, hml, hown, hts⟩ (c_S_isValid l G ad st wr _ (f_certificateOf st (st.1 9) 3) (by first | assumption | exact hI.2.2.2.1 | exact hI.2.2.2.2 | (unfold vp_in; decide) | exact Or.inr (by assumption) | exact cof_mem hI | (intro a h; cases h; assumption) | exact (hI.2.1 _ (by assumption)).1) (by first | assumption | exact hI.2.2.2.1 | exact hI.2.2.2.2 | (unfold vp_in; decide) | exact Or.inr (by assumption) | exact cof_mem hI | (intro a h; cases h; assumption) | exact (hI.2.1 _ (by assumption)).1)) (cwV 1 hts gV_S_217 rfl rfl rfl (by decide +kernel) ⟨Nat.le_of_ble_eq_true rfl, Nat.le_of_ble_eq_true rfl⟩) h0 hw 0 rfl rfl rfl rfl hl.1 rfl (Nat.le_of_ble_eq_true rfl) d_S_endAdministrationInTime_17 ⟨Nat.le_of_ble_eq_true rfl, Nat.le_of_ble_eq_true rfl⟩ (fun H locs hw => ?_)
    refine lv_if_ne (tgt := 27) hx hb d_S_endAdministrationInTime_20 (by decide) (fun c_20 => ?_) (fun c_20 => ?_)
    · exact z_vret (wf := fun _ : Unit => (wC ad G (f_endAdministrationInTime st) ++ wr)) (u := ()) hx hb hr hlocks h0 (by rw [f_endAdministrationInTime, if_neg c_4, if_neg c_20]; exact hw) trivial (Nat.le_of_ble_eq_true rfl) (Nat.le_of_ble_eq_true rfl) d_S_endAdministrationInTime_27
    · refine lv_aload_n hx hb d_S_endAdministrationInTime_23 rfl (lv_at hl 0 rfl) ?_
      refine z_Vv0 (As := []) (ws1 := (wC ad G (f_dismissAdministrator st) ++ wr)) ⟨hx, hb, hml, hown, hts⟩ (c_S_dismissAdministrator l G ad st wr _  (by first | assumption | exact hI.2.2.2.1 | exact hI.2.2.2.2 | (unfold vp_in; decide) | exact Or.inr (by assumption) | exact cof_mem hI | (intro a h; cases h; assumption) | exact (hI.2.1 _ (by assumption)).1)) (cwV 0 hts gV_S_152 rfl rfl rfl (by decide +kernel) ⟨Nat.le_of_ble_eq_true rfl, Nat.le_of_ble_eq_true rfl⟩) h0 hw 0 rfl rfl rfl rfl hl.1 rfl (Nat.le_of_ble_eq_true rfl) d_S_endAdministrationInTime_24 ⟨Nat.le_of_ble_eq_true rfl, Nat.le_of_ble_eq_true rfl⟩ (fun H locs hw => ?_)
      have hI : InvC (f_dismissAdministrator st) := inv_f_dismissAdministrator hI
      exact z_vret (wf := fun _ : Unit => (wC ad G (f_endAdministrationInTime st) ++ wr)) (u := ()) hx hb hr hlocks h0 (by rw [f_endAdministrationInTime, if_neg c_4, if_pos c_20]; exact hw) trivial (Nat.le_of_ble_eq_true rfl) (Nat.le_of_ble_eq_true rfl) d_S_endAdministrationInTime_27
end CON
end
section
section CON
set_option maxHeartbeats 4000000 in
set_option maxRecDepth 100000 in
theorem c_S_signature (l : Launch) (hl9 : l.stackTraces = false) (G : gG) (ad : Nat → Nat) (st : CS) (wr : va_W) (sz : Nat) (p1 : Int32) (p2 : Int32) (p3 : Int32) (p4 : Int32) (p5 : Int32) (p6 : Int32)  : vx_Met l y_S_signature w_S_signature { frames := 6, cells := 1, slots := 6, locals := 81 } (va_Pc [.ref (ad 0), .int p1, .int p2, .int p3, .int p4, .int p5, .int p6] (z_pre G (wC ad G st ++ wr) sz)) (z_Qi G (wC ad G st ++ wr) sz (fun u : CS => (wC ad G u ++ wr)) (fun r u => f_signature st p1 p2 p3 p4 p5 p6 = .inr (r, u))) (z_X G (wC ad G st ++ wr) sz (fun E => f_signature st p1 p2 p3 p4 p5 p6 = .inl E)) 1 6 (va_A (wC ad G st ++ wr) sz) := by
  refine vx_ofW (cc := b_S_signature) (maxL := 7) (ret := (some .int)) (by decide) rfl ?_
  intro p e s m args below meth c s₁ B hml hex hv
  obtain ⟨rfl, hsz, hP, hK, hD0, ham⟩ := hv
  subst hsz
  have hx := B.exec
  have hb := B.bytes
  have hr := B.returns
  have hts : ∀ w ∈ goT, w.before _ s = true := fun w h => atoms_spec (ws := w_S_signature) B.pre w (List.mem_cons_of_mem _ h)
  have hg : ∀ w, goB w = true → w.before _ s = true := fun w h => hts w (goI h)
  have hown : s.vm.findClass R_S = some m.cls := findClass_of_methodNamed B.named
  have hlocks := B.notSynchronized
  have h0 : z_st G (wC ad G st ++ wr) s := ⟨hK, ham⟩
  have hw : z_wl G (wC ad G st ++ wr) s (wC ad G st ++ wr) s.heap [] := z_0 hP hD0
  have hl := lv_entry ([.ref (ad 0), .int p1, .int p2, .int p3, .int p4, .int p5, .int p6]) (n := 7) (Nat.le_of_ble_eq_true rfl)
  rw [lg_entry_eq]
  generalize (lg_sl ([.ref (ad 0), .int p1, .int p2, .int p3, .int p4, .int p5, .int p6]) ++ List.replicate (7 - (lg_sl ([.ref (ad 0), .int p1, .int p2, .int p3, .int p4, .int p5, .int p6])).length) Slot.unset).toArray = ls at hl ⊢
  have hl : lv_has ls 7 [(0, .ref (ad 0)), (1, .int p1), (2, .int p2), (3, .int p3), (4, .int p4), (5, .int p5), (6, .int p6)] := hl
  refine lv_iload_n hx hb d_S_signature_0 rfl (lv_at hl 1 rfl) ?_
  refine lv_iload_n hx hb d_S_signature_1 rfl (lv_at hl 2 rfl) ?_
  refine lv_iload_n hx hb d_S_signature_2 rfl (lv_at hl 3 rfl) ?_
  refine lv_iload hx hb d_S_signature_3 (lv_at hl 4 rfl) ?_
  refine lv_iload hx hb d_S_signature_5 (lv_at hl 5 rfl) ?_
  refine lv_iload hx hb d_S_signature_7 (lv_at hl 6 rfl) ?_
  refine z_Si0 (As := [.int p1, .int p2, .int p3, .int p4, .int p5, .int p6]) (v := (f_areCertificateNumbers p1 p2 p3 p4 p5 p6)) ⟨hx, hb, hml, hown, hts⟩ (c_S_areCertificateNumbers l G (wC ad G st ++ wr) _ p1 p2 p3 p4 p5 p6) (cwS 6 hts gS_S_50 rfl rfl rfl (by decide +kernel) ⟨Nat.le_of_ble_eq_true rfl, Nat.le_of_ble_eq_true rfl⟩) h0 hw rfl hl.1 rfl (Nat.le_of_ble_eq_true rfl) d_S_signature_9 ⟨Nat.le_of_ble_eq_true rfl, Nat.le_of_ble_eq_true rfl⟩ (fun H locs hw => ?_)
  refine lv_if_ne (tgt := 23) hx hb d_S_signature_12 (by decide) (fun c_12 => ?_) (fun c_12 => ?_)
  · have hp2 : vp_in p2 7 := acn_iss c_12
    refine lv_aload_n hx hb d_S_signature_23 rfl (lv_at hl 0 rfl) ?_
    refine lv_iload_n hx hb d_S_signature_24 rfl (lv_at hl 2 rfl) ?_
    refine z_Vi0 (As := [.int p2]) (v := (f_isEnrolled st p2)) ⟨hx, hb, hml, hown, hts⟩ (c_S_isEnrolled l G ad st wr _ p2 (by first | assumption | exact hI.2.2.2.1 | exact hI.2.2.2.2 | (unfold vp_in; decide) | exact Or.inr (by assumption) | exact cof_mem hI | (intro a h; cases h; assumption) | exact (hI.2.1 _ (by assumption)).1)) (cwV 1 hts gV_S_57 rfl rfl rfl (by decide +kernel) ⟨Nat.le_of_ble_eq_true rfl, Nat.le_of_ble_eq_true rfl⟩) h0 hw 0 rfl rfl rfl rfl hl.1 rfl (Nat.le_of_ble_eq_true rfl) d_S_signature_25 ⟨Nat.le_of_ble_eq_true rfl, Nat.le_of_ble_eq_true rfl⟩ (fun H locs hw => ?_)
    refine lv_if_eq (tgt := 47) hx hb d_S_signature_28 (by decide) (fun c_28 => ?_) (fun c_28 => ?_)
    · refine lv_iconst (v := 0) hx hb d_S_signature_47 (by decide) ?_
      exact vx_ret (z_iret (wf := fun u : CS => (wC ad G u ++ wr)) (u := st) hx hb hr hlocks h0 hw rfl (by rw [f_signature, if_neg c_12, if_pos c_28]) (Nat.le_of_ble_eq_true rfl) (Nat.le_of_ble_eq_true rfl) d_S_signature_48)
    · refine lv_aload_n hx hb d_S_signature_31 rfl (lv_at hl 0 rfl) ?_
      refine lv_iload_n hx hb d_S_signature_32 rfl (lv_at hl 1 rfl) ?_
      refine lv_iload_n hx hb d_S_signature_33 rfl (lv_at hl 2 rfl) ?_
      refine lv_iload_n hx hb d_S_signature_34 rfl (lv_at hl 3 rfl) ?_
      refine lv_iload hx hb d_S_signature_35 (lv_at hl 4 rfl) ?_
      refine lv_iload hx hb d_S_signature_37 (lv_at hl 5 rfl) ?_
      refine lv_iload hx hb d_S_signature_39 (lv_at hl 6 rfl) ?_
      refine z_Vi0 (As := [.int p1, .int p2, .int p3, .int p4, .int p5, .int p6]) (v := (f_rightSignature st p1 p2 p3 p4 p5 p6)) ⟨hx, hb, hml, hown, hts⟩ (c_S_rightSignature l G ad st wr _ p1 p2 p3 p4 p5 p6 (by first | assumption | exact hI.2.2.2.1 | exact hI.2.2.2.2 | (unfold vp_in; decide) | exact Or.inr (by assumption) | exact cof_mem hI | (intro a h; cases h; assumption) | exact (hI.2.1 _ (by assumption)).1)) (cwV 6 hts gV_S_61 rfl rfl rfl (by decide +kernel) ⟨Nat.le_of_ble_eq_true rfl, Nat.le_of_ble_eq_true rfl⟩) h0 hw 0 rfl rfl rfl rfl hl.1 rfl (Nat.le_of_ble_eq_true rfl) d_S_signature_41 ⟨Nat.le_of_ble_eq_true rfl, Nat.le_of_ble_eq_true rfl⟩ (fun H locs hw => ?_)
      refine lv_goto (tgt := 48) hx hb d_S_signature_44 (by decide) ?_
      exact vx_ret (z_iret (wf := fun u : CS => (wC ad G u ++ wr)) (u := st) hx hb hr hlocks h0 hw rfl (by rw [f_signature, if_neg c_12, if_neg c_28]) (Nat.le_of_ble_eq_true rfl) (Nat.le_of_ble_eq_true rfl) d_S_signature_48)
  · exact z_throw0 (cls := "java/lang/IllegalArgumentException") (ic := 56) hx hb hl9 hown (hg (.classLink R_S 54 "java/lang/IllegalArgumentException") (by decide +kernel)) (hg (.initialized "java/lang/IllegalArgumentException") (by decide +kernel)) (hat_S56 hts h0.2.1) (by decide +kernel) h0 hw (hl.1.trans hml.symm) d_S_signature_15 d_S_signature_18 d_S_signature_19 d_S_signature_22 hex (Nat.le_of_ble_eq_true rfl) (Nat.le_of_ble_eq_true rfl) (Nat.le_of_ble_eq_true rfl) (Nat.le_of_ble_eq_true rfl) hlocks (by rw [f_signature, if_pos c_12]) (Nat.le_of_ble_eq_true rfl) (Nat.le_of_ble_eq_true rfl)
set_option maxHeartbeats 4000000 in
set_option maxRecDepth 100000 in
theorem c_S_enrol (l : Launch) (hl9 : l.stackTraces = false) (G : gG) (ad : Nat → Nat) (st : CS) (wr : va_W) (sz : Nat) (p1 : Int32) (p2 : Int32)  : vx_Met l y_S_enrol w_S_enrol { frames := 6, cells := 1, slots := 6, locals := 81 } (va_Pc [.ref (ad 0), .int p1, .int p2] (z_pre G (wC ad G st ++ wr) sz)) (z_Qi G (wC ad G st ++ wr) sz (fun u : CS => (wC ad G u ++ wr)) (fun r u => f_enrol st p1 p2 = .inr (r, u))) (z_X G (wC ad G st ++ wr) sz (fun E => f_enrol st p1 p2 = .inl E)) 1 6 (va_A (wC ad G st ++ wr) sz) := by
  refine vx_ofW (cc := b_S_enrol) (maxL := 4) (ret := (some .int)) (by decide) rfl ?_
  intro p e s m args below meth c s₁ B hml hex hv
  obtain ⟨rfl, hsz, hP, hK, hD0, ham⟩ := hv
  subst hsz
  have hx := B.exec
  have hb := B.bytes
  have hr := B.returns
  have hts : ∀ w ∈ goT, w.before _ s = true := fun w h => atoms_spec (ws := w_S_enrol) B.pre w (List.mem_cons_of_mem _ h)
  have hg : ∀ w, goB w = true → w.before _ s = true := fun w h => hts w (goI h)
  have hown : s.vm.findClass R_S = some m.cls := findClass_of_methodNamed B.named
  have hlocks := B.notSynchronized
  have h0 : z_st G (wC ad G st ++ wr) s := ⟨hK, ham⟩
  have hw : z_wl G (wC ad G st ++ wr) s (wC ad G st ++ wr) s.heap [] := z_0 hP hD0
  have hl := lv_entry ([.ref (ad 0), .int p1, .int p2]) (n := 4) (Nat.le_of_ble_eq_true rfl)
  rw [lg_entry_eq]
  generalize (lg_sl ([.ref (ad 0), .int p1, .int p2]) ++ List.replicate (4 - (lg_sl ([.ref (ad 0), .int p1, .int p2])).length) Slot.unset).toArray = ls at hl ⊢
  have hl : lv_has ls 4 [(0, .ref (ad 0)), (1, .int p1), (2, .int p2)] := hl
  refine lv_iload_n hx hb d_S_enrol_0 rfl (lv_at hl 1 rfl) ?_
  refine lv_iconst (v := 0) hx hb d_S_enrol_1 (by decide) ?_
  refine lv_iconst (v := 5) hx hb d_S_enrol_2 (by decide) ?_
  refine z_Si0 (As := [.int p1, .int 0, .int 5]) (v := (f_isWithin p1 0 5)) ⟨hx, hb, hml, hown, hts⟩ (c_S_isWithin l G (wC ad G st ++ wr) _ p1 0 5) (cwS 3 hts gS_S_69 rfl rfl rfl (by decide +kernel) ⟨Nat.le_of_ble_eq_true rfl, Nat.le_of_ble_eq_true rfl⟩) h0 hw rfl hl.1 rfl (Nat.le_of_ble_eq_true rfl) d_S_enrol_3 ⟨Nat.le_of_ble_eq_true rfl, Nat.le_of_ble_eq_true rfl⟩ (fun H locs hw => ?_)
  refine lv_if_eq (tgt := 20) hx hb d_S_enrol_6 (by decide) (fun c_6 => ?_) (fun c_6 => ?_)
  · exact z_throw0 (cls := "java/lang/IllegalArgumentException") (ic := 56) hx hb hl9 hown (hg (.classLink R_S 54 "java/lang/IllegalArgumentException") (by decide +kernel)) (hg (.initialized "java/lang/IllegalArgumentException") (by decide +kernel)) (hat_S56 hts h0.2.1) (by decide +kernel) h0 hw (hl.1.trans hml.symm) d_S_enrol_20 d_S_enrol_23 d_S_enrol_24 d_S_enrol_27 hex (Nat.le_of_ble_eq_true rfl) (Nat.le_of_ble_eq_true rfl) (Nat.le_of_ble_eq_true rfl) (Nat.le_of_ble_eq_true rfl) hlocks (by rw [f_enrol, if_pos c_6]) (Nat.le_of_ble_eq_true rfl) (Nat.le_of_ble_eq_true rfl)
  · refine lv_iload_n hx hb d_S_enrol_9 rfl (lv_at hl 2 rfl) ?_
    refine lv_iconst (v := 0) hx hb d_S_enrol_10 (by decide) ?_
    refine lv_sipush (v := 9972) hx hb d_S_enrol_11 (by decide) ?_
    refine z_Si0 (As := [.int p2, .int 0, .int 9972]) (v := (f_isWithin p2 0 9972)) ⟨hx, hb, hml, hown, hts⟩ (c_S_isWithin l G (wC ad G st ++ wr) _ p2 0 9972) (cwS 3 hts gS_S_69 rfl rfl rfl (by decide +kernel) ⟨Nat.le_of_ble_eq_true rfl, Nat.le_of_ble_eq_true rfl⟩) h0 hw rfl hl.1 rfl (Nat.le_of_ble_eq_true rfl) d_S_enrol_14 ⟨Nat.le_of_ble_eq_true rfl, Nat.le_of_ble_eq_true rfl⟩ (fun H locs hw => ?_)
    refine lv_if_ne (tgt := 28) hx hb d_S_enrol_17 (by decide) (fun c_17 => ?_) (fun c_17 => ?_)
    · have hp1 : vp_in p1 7 := win_in c_6 (by decide)
      refine lv_aload_n hx hb d_S_enrol_28 rfl (lv_at hl 0 rfl) ?_
      refine va_get (D := G.1) (ci := 2) (v := .int (st.1 5)) (C := R_S) (T := T_S) (N := 14) hx hb hts in_S hown h0.1 hw.1 0 rfl rfl 5 (by decide) (hg (.fieldLink R_S 87 "SecureEntry" "up" "Z") (by decide +kernel)) (fun _ h9 => h9) rfl d_S_enrol_29 ?_
      refine lv_if_eq (tgt := 43) hx hb d_S_enrol_32 (by decide) (fun c_32 => ?_) (fun c_32 => ?_)
      · refine lv_aload_n hx hb d_S_enrol_43 rfl (lv_at hl 0 rfl) ?_
        refine va_get (D := G.1) (ci := 2) (v := .ref (ad 2)) (C := R_S) (T := T_S) (N := 14) hx hb hts in_S hown h0.1 hw.1 0 rfl rfl 1 (by decide) (hg (.fieldLink R_S 21 "SecureEntry" "keys" "[I") (by decide +kernel)) (fun _ h9 => h9) rfl d_S_enrol_44 ?_
        refine lv_iload_n hx hb d_S_enrol_47 rfl (lv_at hl 1 rfl) ?_
        refine va_iald hx hb h0.1 hw.1 2 0 rfl rfl (show vp_in p1 7 by assumption) d_S_enrol_48 ?_
        refine lv_istore_n (lv' := [(3, .int ((st.2.1 1) p1.toNatClampNeg)), (0, .ref (ad 0)), (1, .int p1), (2, .int p2)]) hx hb d_S_enrol_49 rfl hl (by decide) rfl (fun ls hl => ?_)
        refine lv_aload_n hx hb d_S_enrol_50 rfl (lv_at hl 1 rfl) ?_
        refine va_get (D := G.1) (ci := 2) (v := .ref (ad 2)) (C := R_S) (T := T_S) (N := 14) hx hb hts in_S hown h0.1 hw.1 0 rfl rfl 1 (by decide) (hg (.fieldLink R_S 21 "SecureEntry" "keys" "[I") (by decide +kernel)) (fun _ h9 => h9) rfl d_S_enrol_51 ?_
        refine lv_iload_n hx hb d_S_enrol_54 rfl (lv_at hl 2 rfl) ?_
        refine lv_iload_n hx hb d_S_enrol_55 rfl (lv_at hl 3 rfl) ?_
        refine va_iast hx hb h0.1 hw.1 hw.2.1 hw.2.2 2 0 rfl rfl (show vp_in p1 7 by assumption) d_S_enrol_56 (fun H locs hP hD hS => ?_)
        have hw : z_wl G (wC ad G st ++ wr) s (wC ad G (sA st 1 (upd (st.2.1 1) p1.toNatClampNeg p2)) ++ wr) H locs := ⟨hP, hD, hS⟩
        refine lv_iload_n hx hb d_S_enrol_57 rfl (lv_at hl 0 rfl) ?_
        exact vx_ret (z_iret (wf := fun u : CS => (wC ad G u ++ wr)) (u := (sA st 1 (upd (st.2.1 1) p1.toNatClampNeg p2))) hx hb hr hlocks h0 hw rfl (by rw [f_enrol, if_neg c_6, if_neg c_17, if_pos c_32]) (Nat.le_of_ble_eq_true rfl) (Nat.le_of_ble_eq_true rfl) d_S_enrol_58)
      · exact z_throw0 (cls := "java/lang/IllegalStateException") (ic := 93) hx hb hl9 hown (hg (.classLink R_S 91 "java/lang/IllegalStateException") (by decide +kernel)) (hg (.initialized "java/lang/IllegalStateException") (by decide +kernel)) (hat_S93 hts h0.2.1) (by decide +kernel) h0 hw (hl.1.trans hml.symm) d_S_enrol_35 d_S_enrol_38 d_S_enrol_39 d_S_enrol_42 hex (Nat.le_of_ble_eq_true rfl) (Nat.le_of_ble_eq_true rfl) (Nat.le_of_ble_eq_true rfl) (Nat.le_of_ble_eq_true rfl) hlocks (by rw [f_enrol, if_neg c_6, if_neg c_17, if_neg c_32]) (Nat.le_of_ble_eq_true rfl) (Nat.le_of_ble_eq_true rfl)
    · exact z_throw0 (cls := "java/lang/IllegalArgumentException") (ic := 56) hx hb hl9 hown (hg (.classLink R_S 54 "java/lang/IllegalArgumentException") (by decide +kernel)) (hg (.initialized "java/lang/IllegalArgumentException") (by decide +kernel)) (hat_S56 hts h0.2.1) (by decide +kernel) h0 hw (hl.1.trans hml.symm) d_S_enrol_20 d_S_enrol_23 d_S_enrol_24 d_S_enrol_27 hex (Nat.le_of_ble_eq_true rfl) (Nat.le_of_ble_eq_true rfl) (Nat.le_of_ble_eq_true rfl) (Nat.le_of_ble_eq_true rfl) hlocks (by rw [f_enrol, if_neg c_6, if_pos c_17]) (Nat.le_of_ble_eq_true rfl) (Nat.le_of_ble_eq_true rfl)
set_option maxHeartbeats 4000000 in
set_option maxRecDepth 100000 in
theorem c_S_remove (l : Launch) (hl9 : l.stackTraces = false) (G : gG) (ad : Nat → Nat) (st : CS) (wr : va_W) (sz : Nat)  (hI : InvC st) : vx_Met l y_S_remove w_S_remove { frames := 7, cells := 2, slots := 12, locals := 106 } (va_Pc [.ref (ad 0)] (z_pre G (wC ad G st ++ wr) sz)) (z_Qi G (wC ad G st ++ wr) sz (fun u : CS => (wC ad G u ++ wr)) (fun r u => f_remove st = .inr (r, u))) (z_X G (wC ad G st ++ wr) sz (fun E => f_remove st = .inl E)) 2 12 (va_A (wC ad G st ++ wr) sz) := by
  refine vx_ofW (cc := b_S_remove) (maxL := 2) (ret := (some .int)) (by decide) rfl ?_
  intro p e s m args below meth c s₁ B hml hex hv
  obtain ⟨rfl, hsz, hP, hK, hD0, ham⟩ := hv
  subst hsz
  have hx := B.exec
  have hb := B.bytes
  have hr := B.returns
  have hts : ∀ w ∈ goT, w.before _ s = true := fun w h => atoms_spec (ws := w_S_remove) B.pre w (List.mem_cons_of_mem _ h)
  have hg : ∀ w, goB w = true → w.before _ s = true := fun w h => hts w (goI h)
  have hown : s.vm.findClass R_S = some m.cls := findClass_of_methodNamed B.named
  have hlocks := B.notSynchronized
  have h0 : z_st G (wC ad G st ++ wr) s := ⟨hK, ham⟩
  have hw : z_wl G (wC ad G st ++ wr) s (wC ad G st ++ wr) s.heap [] := z_0 hP hD0
  have hl := lv_entry ([.ref (ad 0)]) (n := 2) (Nat.le_of_ble_eq_true rfl)
  rw [lg_entry_eq]
  generalize (lg_sl ([.ref (ad 0)]) ++ List.replicate (2 - (lg_sl ([.ref (ad 0)])).length) Slot.unset).toArray = ls at hl ⊢
  have hl : lv_has ls 2 [(0, .ref (ad 0))] := hl
  refine lv_aload_n hx hb d_S_remove_0 rfl (lv_at hl 0 rfl) ?_
  refine z_VXn (As := []) (P := fun E => (f_requireUp st) = some E) (N := (f_requireUp st) = none) ⟨hx, hb, hml, hown, hts⟩ (c_S_requireUp l hl9 G ad st wr _) (cwV 0 hts gV_S_108 rfl rfl rfl (by decide +kernel) ⟨Nat.le_of_ble_eq_true rfl, Nat.le_of_ble_eq_true rfl⟩) h0 hw 0 rfl rfl rfl rfl hl.1 rfl (Nat.le_of_ble_eq_true rfl) d_S_remove_1 ⟨Nat.le_of_ble_eq_true rfl, Nat.le_of_ble_eq_true rfl⟩ (fun E ce q9 H locs hE hw hce hcv hcl => z_out hex hlocks h0 hw hce hcv hcl (by rw [f_remove, hE, exo_some]) (Nat.le_of_ble_eq_true rfl) (Nat.le_of_ble_eq_true rfl)) (fun H locs hn_1 hw => ?_)
  refine lv_aload_n hx hb d_S_remove_4 rfl (lv_at hl 0 rfl) ?_
  refine va_get (D := G.1) (ci := 2) (v := .int (st.1 8)) (C := R_S) (T := T_S) (N := 14) hx hb hts in_S hown h0.1 hw.1 0 rfl rfl 8 (by decide) (hg (.fieldLink R_S 41 "SecureEntry" "outerToken" "I") (by decide +kernel)) (fun _ h9 => h9) rfl d_S_remove_5 ?_
  refine z_SXn (As := [.int (st.1 8)]) (P := fun E => (f_requireFilled (st.1 8)) = some E) (N := (f_requireFilled (st.1 8)) = none) ⟨hx, hb, hml, hown, hts⟩ (c_S_requireFilled l hl9 G (wC ad G st ++ wr) _ (st.1 8)) (cwS 1 hts gS_S_142 rfl rfl rfl (by decide +kernel) ⟨Nat.le_of_ble_eq_true rfl, Nat.le_of_ble_eq_true rfl⟩) h0 hw rfl hl.1 rfl (Nat.le_of_ble_eq_true rfl) d_S_remove_8 ⟨Nat.le_of_ble_eq_true rfl, Nat.le_of_ble_eq_true rfl⟩ (fun E ce q9 H locs hE hw hce hcv hcl => z_out hex hlocks h0 hw hce hcv hcl (by rw [f_remove, hn_1, exo_none, hE, exo_some]) (Nat.le_of_ble_eq_true rfl) (Nat.le_of_ble_eq_true rfl)) (fun H locs hn_8 hw => ?_)
  refine lv_aload_n hx hb d_S_remove_11 rfl (lv_at hl 0 rfl) ?_
  refine va_get (D := G.1) (ci := 2) (v := .int (st.1 8)) (C := R_S) (T := T_S) (N := 14) hx hb hts in_S hown h0.1 hw.1 0 rfl rfl 8 (by decide) (hg (.fieldLink R_S 41 "SecureEntry" "outerToken" "I") (by decide +kernel)) (fun _ h9 => h9) rfl d_S_remove_12 ?_
  refine lv_istore_n (lv' := [(1, .int (st.1 8)), (0, .ref (ad 0))]) hx hb d_S_remove_15 rfl hl (by decide) rfl (fun ls hl => ?_)
  refine lv_aload_n hx hb d_S_remove_16 rfl (lv_at hl 1 rfl) ?_
  refine va_get (D := G.1) (ci := 2) (v := .int (st.1 6)) (C := R_S) (T := T_S) (N := 14) hx hb hts in_S hown h0.1 hw.1 0 rfl rfl 6 (by decide) (hg (.fieldLink R_S 37 "SecureEntry" "userState" "I") (by decide +kernel)) (fun _ h9 => h9) rfl d_S_remove_17 ?_
  refine lv_iconst (v := 2) hx hb d_S_remove_20 (by decide) ?_
  refine lv_icmp_ne (tgt := 31) hx hb d_S_remove_21 (by decide) (fun c_21 => ?_) (fun c_21 => ?_)
  · refine lv_aload_n hx hb d_S_remove_31 rfl (lv_at hl 1 rfl) ?_
    refine va_get (D := G.1) (ci := 2) (v := .int (st.1 6)) (C := R_S) (T := T_S) (N := 14) hx hb hts in_S hown h0.1 hw.1 0 rfl rfl 6 (by decide) (hg (.fieldLink R_S 37 "SecureEntry" "userState" "I") (by decide +kernel)) (fun _ h9 => h9) rfl d_S_remove_32 ?_
    refine lv_iconst (v := 1) hx hb d_S_remove_35 (by decide) ?_
    refine lv_icmp_ne (tgt := 46) hx hb d_S_remove_36 (by decide) (fun c_36 => ?_) (fun c_36 => ?_)
    · refine lv_aload_n hx hb d_S_remove_46 rfl (lv_at hl 1 rfl) ?_
      refine lv_iconst (v := (-1)) hx hb d_S_remove_47 (by decide) ?_
      refine va_put (D := G.1) (ci := 2) (v := .int (-1)) (ty := .int) (C := R_S) (T := T_S) (N := 14) hx hb hts in_S ty_S ty_S_ok n_S hown h0.1 hw.1 hw.2.1 hw.2.2 0 rfl rfl 8 (by decide) (hg (.fieldLink R_S 41 "SecureEntry" "outerToken" "I") (by decide +kernel)) (fun _ h9 => h9) rfl (by decide +kernel) rfl rfl (Nat.le_of_ble_eq_true rfl) d_S_remove_48 (fun H locs hP hD hS => ?_)
      have hI : InvC (sS st 8 (-1)) := inv_tok8 hI (by exact Or.inl rfl)
      have hw : z_wl G (wC ad G st ++ wr) s (wC ad G (sS st 8 (-1)) ++ wr) H locs := ⟨hP, hD, hS⟩
      refine lv_aload_n hx hb d_S_remove_51 rfl (lv_at hl 1 rfl) ?_
      refine lv_iconst (v := 0) hx hb d_S_remove_52 (by decide) ?_
      refine z_Vv0 (As := [.int 0]) (ws1 := (wC ad G (f_becomeUserState (sS st 8 (-1)) 0) ++ wr)) ⟨hx, hb, hml, hown, hts⟩ (c_S_becomeUserState l G ad (sS st 8 (-1)) wr _ 0) (cwV 1 hts gV_S_98 rfl rfl rfl (by decide +kernel) ⟨Nat.le_of_ble_eq_true rfl, Nat.le_of_ble_eq_true rfl⟩) h0 hw 0 rfl rfl rfl rfl hl.1 rfl (Nat.le_of_ble_eq_true rfl) d_S_remove_53 ⟨Nat.le_of_ble_eq_true rfl, Nat.le_of_ble_eq_true rfl⟩ (fun H locs hw => ?_)
      have hI : InvC (f_becomeUserState (sS st 8 (-1)) 0) := inv_f_becomeUserState hI
      refine lv_iload_n hx hb d_S_remove_56 rfl (lv_at hl 0 rfl) ?_
      exact vx_ret (z_iret (wf := fun u : CS => (wC ad G u ++ wr)) (u := (f_becomeUserState (sS st 8 (-1)) 0)) hx hb hr hlocks h0 hw rfl (by rw [f_remove, hn_1, exo_none, hn_8, exo_none, if_neg c_21, if_neg c_36]) (Nat.le_of_ble_eq_true rfl) (Nat.le_of_ble_eq_true rfl) d_S_remove_57)
    · refine lv_aload_n hx hb d_S_remove_39 rfl (lv_at hl 1 rfl) ?_
      refine lv_iload_n hx hb d_S_remove_40 rfl (lv_at hl 0 rfl) ?_
      refine lv_bipush (v := 8) hx hb d_S_remove_41 (by decide) ?_
      refine z_Vv0 (As := [.int (st.1 8), .int 8]) (ws1 := (wC ad G (f_writeAbout st (st.1 8) 8) ++ wr)) ⟨hx, hb, hml, hown, hts⟩ (c_S_writeAbout l G ad st wr _ (st.1 8) 8 (by first | assumption | exact hI.2.2.2.1 | exact hI.2.2.2.2 | (unfold vp_in; decide) | exact Or.inr (by assumption) | exact cof_mem hI | (intro a h; cases h; assumption) | exact (hI.2.1 _ (by assumption)).1) (by first | assumption | exact hI.2.2.2.1 | exact hI.2.2.2.2 | (unfold vp_in; decide) | exact Or.inr (by assumption) | exact cof_mem hI | (intro a h; cases h; assumption) | exact (hI.2.1 _ (by assumption)).1)) (cwV 2 hts gV_S_114 rfl rfl rfl (by decide +kernel) ⟨Nat.le_of_ble_eq_true rfl, Nat.le_of_ble_eq_true rfl⟩) h0 hw 0 rfl rfl rfl rfl hl.1 rfl (Nat.le_of_ble_eq_true rfl) d_S_remove_43 ⟨Nat.le_of_ble_eq_true rfl, Nat.le_of_ble_eq_true rfl⟩ (fun H locs hw => ?_)
      have hI : InvC (f_writeAbout st (st.1 8) 8) := inv_f_writeAbout hI
      refine lv_aload_n hx hb d_S_remove_46 rfl (lv_at hl 1 rfl) ?_
      refine lv_iconst (v := (-1)) hx hb d_S_remove_47 (by decide) ?_
      refine va_put (D := G.1) (ci := 2) (v := .int (-1)) (ty := .int) (C := R_S) (T := T_S) (N := 14) hx hb hts in_S ty_S ty_S_ok n_S hown h0.1 hw.1 hw.2.1 hw.2.2 0 rfl rfl 8 (by decide) (hg (.fieldLink R_S 41 "SecureEntry" "outerToken" "I") (by decide +kernel)) (fun _ h9 => h9) rfl (by decide +kernel) rfl rfl (Nat.le_of_ble_eq_true rfl) d_S_remove_48 (fun H locs hP hD hS => ?_)
      have hI : InvC (sS (f_writeAbout st (st.1 8) 8) 8 (-1)) := inv_tok8 hI (by exact Or.inl rfl)
      have hw : z_wl G (wC ad G st ++ wr) s (wC ad G (sS (f_writeAbout st (st.1 8) 8) 8 (-1)) ++ wr) H locs := ⟨hP, hD, hS⟩
      refine lv_aload_n hx hb d_S_remove_51 rfl (lv_at hl 1 rfl) ?_
      refine lv_iconst (v := 0) hx hb d_S_remove_52 (by decide) ?_
      refine z_Vv0 (As := [.int 0]) (ws1 := (wC ad G (f_becomeUserState (sS (f_writeAbout st (st.1 8) 8) 8 (-1)) 0) ++ wr)) ⟨hx, hb, hml, hown, hts⟩ (c_S_becomeUserState l G ad (sS (f_writeAbout st (st.1 8) 8) 8 (-1)) wr _ 0) (cwV 1 hts gV_S_98 rfl rfl rfl (by decide +kernel) ⟨Nat.le_of_ble_eq_true rfl, Nat.le_of_ble_eq_true rfl⟩) h0 hw 0 rfl rfl rfl rfl hl.1 rfl (Nat.le_of_ble_eq_true rfl) d_S_remove_53 ⟨Nat.le_of_ble_eq_true rfl, Nat.le_of_ble_eq_true rfl⟩ (fun H locs hw => ?_)
      have hI : InvC (f_becomeUserState (sS (f_writeAbout st (st.1 8) 8) 8 (-1)) 0) := inv_f_becomeUserState hI
      refine lv_iload_n hx hb d_S_remove_56 rfl (lv_at hl 0 rfl) ?_
      exact vx_ret (z_iret (wf := fun u : CS => (wC ad G u ++ wr)) (u := (f_becomeUserState (sS (f_writeAbout st (st.1 8) 8) 8 (-1)) 0)) hx hb hr hlocks h0 hw rfl (by rw [f_remove, hn_1, exo_none, hn_8, exo_none, if_neg c_21, if_pos c_36]) (Nat.le_of_ble_eq_true rfl) (Nat.le_of_ble_eq_true rfl) d_S_remove_57)
  · refine lv_aload_n hx hb d_S_remove_24 rfl (lv_at hl 1 rfl) ?_
    refine z_Vv0 (As := []) (ws1 := (wC ad G (f_unlock st) ++ wr)) ⟨hx, hb, hml, hown, hts⟩ (c_S_unlock l G ad st wr _) (cwV 0 hts gV_S_145 rfl rfl rfl (by decide +kernel) ⟨Nat.le_of_ble_eq_true rfl, Nat.le_of_ble_eq_true rfl⟩) h0 hw 0 rfl rfl rfl rfl hl.1 rfl (Nat.le_of_ble_eq_true rfl) d_S_remove_25 ⟨Nat.le_of_ble_eq_true rfl, Nat.le_of_ble_eq_true rfl⟩ (fun H locs hw => ?_)
    have hI : InvC (f_unlock st) := inv_f_unlock hI
    refine lv_goto (tgt := 46) hx hb d_S_remove_28 (by decide) ?_
    refine lv_aload_n hx hb d_S_remove_46 rfl (lv_at hl 1 rfl) ?_
    refine lv_iconst (v := (-1)) hx hb d_S_remove_47 (by decide) ?_
    refine va_put (D := G.1) (ci := 2) (v := .int (-1)) (ty := .int) (C := R_S) (T := T_S) (N := 14) hx hb hts in_S ty_S ty_S_ok n_S hown h0.1 hw.1 hw.2.1 hw.2.2 0 rfl rfl 8 (by decide) (hg (.fieldLink R_S 41 "SecureEntry" "outerToken" "I") (by decide +kernel)) (fun _ h9 => h9) rfl (by decide +kernel) rfl rfl (Nat.le_of_ble_eq_true rfl) d_S_remove_48 (fun H locs hP hD hS => ?_)
    have hI : InvC (sS (f_unlock st) 8 (-1)) := inv_tok8 hI (by exact Or.inl rfl)
    have hw : z_wl G (wC ad G st ++ wr) s (wC ad G (sS (f_unlock st) 8 (-1)) ++ wr) H locs := ⟨hP, hD, hS⟩
    refine lv_aload_n hx hb d_S_remove_51 rfl (lv_at hl 1 rfl) ?_
    refine lv_iconst (v := 0) hx hb d_S_remove_52 (by decide) ?_
    refine z_Vv0 (As := [.int 0]) (ws1 := (wC ad G (f_becomeUserState (sS (f_unlock st) 8 (-1)) 0) ++ wr)) ⟨hx, hb, hml, hown, hts⟩ (c_S_becomeUserState l G ad (sS (f_unlock st) 8 (-1)) wr _ 0) (cwV 1 hts gV_S_98 rfl rfl rfl (by decide +kernel) ⟨Nat.le_of_ble_eq_true rfl, Nat.le_of_ble_eq_true rfl⟩) h0 hw 0 rfl rfl rfl rfl hl.1 rfl (Nat.le_of_ble_eq_true rfl) d_S_remove_53 ⟨Nat.le_of_ble_eq_true rfl, Nat.le_of_ble_eq_true rfl⟩ (fun H locs hw => ?_)
    have hI : InvC (f_becomeUserState (sS (f_unlock st) 8 (-1)) 0) := inv_f_becomeUserState hI
    refine lv_iload_n hx hb d_S_remove_56 rfl (lv_at hl 0 rfl) ?_
    exact vx_ret (z_iret (wf := fun u : CS => (wC ad G u ++ wr)) (u := (f_becomeUserState (sS (f_unlock st) 8 (-1)) 0)) hx hb hr hlocks h0 hw rfl (by rw [f_remove, hn_1, exo_none, hn_8, exo_none, if_pos c_21]) (Nat.le_of_ble_eq_true rfl) (Nat.le_of_ble_eq_true rfl) d_S_remove_57)
set_option maxHeartbeats 4000000 in
set_option maxRecDepth 100000 in
theorem c_S_insert (l : Launch) (hl9 : l.stackTraces = false) (G : gG) (ad : Nat → Nat) (st : CS) (wr : va_W) (sz : Nat) (p1 : Int32) (hI : InvC st) : vx_Met l y_S_insert w_S_insert { frames := 7, cells := 4, slots := 24, locals := 127 } (va_Pc [.ref (ad 0), .int p1] (z_pre G (wC ad G st ++ wr) sz)) (z_Qi G (wC ad G st ++ wr) sz (fun u : CS => (wC ad G u ++ wr)) (fun r u => f_insert st p1 = .inr (r, u))) (z_X G (wC ad G st ++ wr) sz (fun E => f_insert st p1 = .inl E)) 4 24 (va_A (wC ad G st ++ wr) sz) := by
  refine vx_ofW (cc := b_S_insert) (maxL := 2) (ret := (some .int)) (by decide) rfl ?_
  intro p e s m args below meth c s₁ B hml hex hv
  obtain ⟨rfl, hsz, hP, hK, hD0, ham⟩ := hv
  subst hsz
  have hx := B.exec
  have hb := B.bytes
  have hr := B.returns
  have hts : ∀ w ∈ goT, w.before _ s = true := fun w h => atoms_spec (ws := w_S_insert) B.pre w (List.mem_cons_of_mem _ h)
  have hg : ∀ w, goB w = true → w.before _ s = true := fun w h => hts w (goI h)
  have hown : s.vm.findClass R_S = some m.cls := findClass_of_methodNamed B.named
  have hlocks := B.notSynchronized
  have h0 : z_st G (wC ad G st ++ wr) s := ⟨hK, ham⟩
  have hw : z_wl G (wC ad G st ++ wr) s (wC ad G st ++ wr) s.heap [] := z_0 hP hD0
  have hl := lv_entry ([.ref (ad 0), .int p1]) (n := 2) (Nat.le_of_ble_eq_true rfl)
  rw [lg_entry_eq]
  generalize (lg_sl ([.ref (ad 0), .int p1]) ++ List.replicate (2 - (lg_sl ([.ref (ad 0), .int p1])).length) Slot.unset).toArray = ls at hl ⊢
  have hl : lv_has ls 2 [(0, .ref (ad 0)), (1, .int p1)] := hl
  refine lv_aload_n hx hb d_S_insert_0 rfl (lv_at hl 0 rfl) ?_
  refine z_VXn (As := []) (P := fun E => (f_requireUp st) = some E) (N := (f_requireUp st) = none) ⟨hx, hb, hml, hown, hts⟩ (c_S_requireUp l hl9 G ad st wr _) (cwV 0 hts gV_S_108 rfl rfl rfl (by decide +kernel) ⟨Nat.le_of_ble_eq_true rfl, Nat.le_of_ble_eq_true rfl⟩) h0 hw 0 rfl rfl rfl rfl hl.1 rfl (Nat.le_of_ble_eq_true rfl) d_S_insert_1 ⟨Nat.le_of_ble_eq_true rfl, Nat.le_of_ble_eq_true rfl⟩ (fun E ce q9 H locs hE hw hce hcv hcl => z_out hex hlocks h0 hw hce hcv hcl (by rw [f_insert, hE, exo_some]) (Nat.le_of_ble_eq_true rfl) (Nat.le_of_ble_eq_true rfl)) (fun H locs hn_1 hw => ?_)
  refine lv_iload_n hx hb d_S_insert_4 rfl (lv_at hl 1 rfl) ?_
  refine z_SXn (As := [.int p1]) (P := fun E => (f_requireToken p1) = some E) (N := (f_requireToken p1) = none) ⟨hx, hb, hml, hown, hts⟩ (c_S_requireToken l hl9 G (wC ad G st ++ wr) _ p1) (cwS 1 hts gS_S_65 rfl rfl rfl (by decide +kernel) ⟨Nat.le_of_ble_eq_true rfl, Nat.le_of_ble_eq_true rfl⟩) h0 hw rfl hl.1 rfl (Nat.le_of_ble_eq_true rfl) d_S_insert_5 ⟨Nat.le_of_ble_eq_true rfl, Nat.le_of_ble_eq_true rfl⟩ (fun E ce q9 H locs hE hw hce hcv hcl => z_out hex hlocks h0 hw hce hcv hcl (by rw [f_insert, hn_1, exo_none, hE, exo_some]) (Nat.le_of_ble_eq_true rfl) (Nat.le_of_ble_eq_true rfl)) (fun H locs hn_5 hw => ?_)
  have hp1 : vp_in p1 6 := rtk_in hn_5
  refine lv_aload_n hx hb d_S_insert_8 rfl (lv_at hl 0 rfl) ?_
  refine lv_iload_n hx hb d_S_insert_9 rfl (lv_at hl 1 rfl) ?_
  refine z_VXn (As := [.int p1]) (P := fun E => (f_requireInNoReader st p1) = some E) (N := (f_requireInNoReader st p1) = none) ⟨hx, hb, hml, hown, hts⟩ (c_S_requireInNoReader l hl9 G ad st wr _ p1) (cwV 1 hts gV_S_73 rfl rfl rfl (by decide +kernel) ⟨Nat.le_of_ble_eq_true rfl, Nat.le_of_ble_eq_true rfl⟩) h0 hw 0 rfl rfl rfl rfl hl.1 rfl (Nat.le_of_ble_eq_true rfl) d_S_insert_10 ⟨Nat.le_of_ble_eq_true rfl, Nat.le_of_ble_eq_true rfl⟩ (fun E ce q9 H locs hE hw hce hcv hcl => z_out hex hlocks h0 hw hce hcv hcl (by rw [f_insert, hn_1, exo_none, hn_5, exo_none, hE, exo_some]) (Nat.le_of_ble_eq_true rfl) (Nat.le_of_ble_eq_true rfl)) (fun H locs hn_10 hw => ?_)
  refine lv_aload_n hx hb d_S_insert_13 rfl (lv_at hl 0 rfl) ?_
  refine va_get (D := G.1) (ci := 2) (v := .int (st.1 8)) (C := R_S) (T := T_S) (N := 14) hx hb hts in_S hown h0.1 hw.1 0 rfl rfl 8 (by decide) (hg (.fieldLink R_S 41 "SecureEntry" "outerToken" "I") (by decide +kernel)) (fun _ h9 => h9) rfl d_S_insert_14 ?_
  refine z_SXn (As := [.int (st.1 8)]) (P := fun E => (f_requireEmpty (st.1 8)) = some E) (N := (f_requireEmpty (st.1 8)) = none) ⟨hx, hb, hml, hown, hts⟩ (c_S_requireEmpty l hl9 G (wC ad G st ++ wr) _ (st.1 8)) (cwS 1 hts gS_S_111 rfl rfl rfl (by decide +kernel) ⟨Nat.le_of_ble_eq_true rfl, Nat.le_of_ble_eq_true rfl⟩) h0 hw rfl hl.1 rfl (Nat.le_of_ble_eq_true rfl) d_S_insert_17 ⟨Nat.le_of_ble_eq_true rfl, Nat.le_of_ble_eq_true rfl⟩ (fun E ce q9 H locs hE hw hce hcv hcl => z_out hex hlocks h0 hw hce hcv hcl (by rw [f_insert, hn_1, exo_none, hn_5, exo_none, hn_10, exo_none, hE, exo_some]) (Nat.le_of_ble_eq_true rfl) (Nat.le_of_ble_eq_true rfl)) (fun H locs hn_17 hw => ?_)
  refine lv_aload_n hx hb d_S_insert_20 rfl (lv_at hl 0 rfl) ?_
  refine lv_iload_n hx hb d_S_insert_21 rfl (lv_at hl 1 rfl) ?_
  refine va_put (D := G.1) (ci := 2) (v := .int p1) (ty := .int) (C := R_S) (T := T_S) (N := 14) hx hb hts in_S ty_S ty_S_ok n_S hown h0.1 hw.1 hw.2.1 hw.2.2 0 rfl rfl 8 (by decide) (hg (.fieldLink R_S 41 "SecureEntry" "outerToken" "I") (by decide +kernel)) (fun _ h9 => h9) rfl (by decide +kernel) rfl rfl (Nat.le_of_ble_eq_true rfl) d_S_insert_22 (fun H locs hP hD hS => ?_)
  have hI : InvC (sS st 8 p1) := inv_tok8 hI (by exact Or.inr (by assumption))
  have hw : z_wl G (wC ad G st ++ wr) s (wC ad G (sS st 8 p1) ++ wr) H locs := ⟨hP, hD, hS⟩
  refine lv_aload_n hx hb d_S_insert_25 rfl (lv_at hl 0 rfl) ?_
  refine lv_iload_n hx hb d_S_insert_26 rfl (lv_at hl 1 rfl) ?_
  refine lv_iconst (v := 2) hx hb d_S_insert_27 (by decide) ?_
  refine z_Vv0 (As := [.int p1, .int 2]) (ws1 := (wC ad G (f_writeAbout (sS st 8 p1) p1 2) ++ wr)) ⟨hx, hb, hml, hown, hts⟩ (c_S_writeAbout l G ad (sS st 8 p1) wr _ p1 2 (by first | assumption | exact hI.2.2.2.1 | exact hI.2.2.2.2 | (unfold vp_in; decide) | exact Or.inr (by assumption) | exact cof_mem hI | (intro a h; cases h; assumption) | exact (hI.2.1 _ (by assumption)).1) (by first | assumption | exact hI.2.2.2.1 | exact hI.2.2.2.2 | (unfold vp_in; decide) | exact Or.inr (by assumption) | exact cof_mem hI | (intro a h; cases h; assumption) | exact (hI.2.1 _ (by assumption)).1)) (cwV 2 hts gV_S_114 rfl rfl rfl (by decide +kernel) ⟨Nat.le_of_ble_eq_true rfl, Nat.le_of_ble_eq_true rfl⟩) h0 hw 0 rfl rfl rfl rfl hl.1 rfl (Nat.le_of_ble_eq_true rfl) d_S_insert_28 ⟨Nat.le_of_ble_eq_true rfl, Nat.le_of_ble_eq_true rfl⟩ (fun H locs hw => ?_)
  have hI : InvC (f_writeAbout (sS st 8 p1) p1 2) := inv_f_writeAbout hI
  refine lv_aload_n hx hb d_S_insert_31 rfl (lv_at hl 0 rfl) ?_
  refine lv_iload_n hx hb d_S_insert_32 rfl (lv_at hl 1 rfl) ?_
  refine z_Vi0 (As := [.int p1]) (v := (f_isAuthorised (f_writeAbout (sS st 8 p1) p1 2) p1)) ⟨hx, hb, hml, hown, hts⟩ (c_S_isAuthorised l G ad (f_writeAbout (sS st 8 p1) p1 2) wr _ p1 (by first | assumption | exact hI.2.2.2.1 | exact hI.2.2.2.2 | (unfold vp_in; decide) | exact Or.inr (by assumption) | exact cof_mem hI | (intro a h; cases h; assumption) | exact (hI.2.1 _ (by assumption)).1) (by first | assumption | exact hI.2.2.2.1 | exact hI.2.2.2.2 | (unfold vp_in; decide) | exact Or.inr (by assumption) | exact cof_mem hI | (intro a h; cases h; assumption) | exact (hI.2.1 _ (by assumption)).1)) (cwV 1 hts gV_S_118 rfl rfl rfl (by decide +kernel) ⟨Nat.le_of_ble_eq_true rfl, Nat.le_of_ble_eq_true rfl⟩) h0 hw 0 rfl rfl rfl rfl hl.1 rfl (Nat.le_of_ble_eq_true rfl) d_S_insert_33 ⟨Nat.le_of_ble_eq_true rfl, Nat.le_of_ble_eq_true rfl⟩ (fun H locs hw => ?_)
  refine lv_if_eq (tgt := 46) hx hb d_S_insert_36 (by decide) (fun c_36 => ?_) (fun c_36 => ?_)
  · refine lv_aload_n hx hb d_S_insert_46 rfl (lv_at hl 0 rfl) ?_
    refine lv_iload_n hx hb d_S_insert_47 rfl (lv_at hl 1 rfl) ?_
    refine z_Vi0 (As := [.int p1]) (v := (f_isGood (f_writeAbout (sS st 8 p1) p1 2) p1)) ⟨hx, hb, hml, hown, hts⟩ (c_S_isGood l G ad (f_writeAbout (sS st 8 p1) p1 2) wr _ p1 (by first | assumption | exact hI.2.2.2.1 | exact hI.2.2.2.2 | (unfold vp_in; decide) | exact Or.inr (by assumption) | exact cof_mem hI | (intro a h; cases h; assumption) | exact (hI.2.1 _ (by assumption)).1) (by first | assumption | exact hI.2.2.2.1 | exact hI.2.2.2.2 | (unfold vp_in; decide) | exact Or.inr (by assumption) | exact cof_mem hI | (intro a h; cases h; assumption) | exact (hI.2.1 _ (by assumption)).1)) (cwV 1 hts gV_S_124 rfl rfl rfl (by decide +kernel) ⟨Nat.le_of_ble_eq_true rfl, Nat.le_of_ble_eq_true rfl⟩) h0 hw 0 rfl rfl rfl rfl hl.1 rfl (Nat.le_of_ble_eq_true rfl) d_S_insert_48 ⟨Nat.le_of_ble_eq_true rfl, Nat.le_of_ble_eq_true rfl⟩ (fun H locs hw => ?_)
    refine lv_if_eq (tgt := 62) hx hb d_S_insert_51 (by decide) (fun c_51 => ?_) (fun c_51 => ?_)
    · refine lv_aload_n hx hb d_S_insert_62 rfl (lv_at hl 0 rfl) ?_
      refine lv_iconst (v := 3) hx hb d_S_insert_63 (by decide) ?_
      refine z_Vv0 (As := [.int 3]) (ws1 := (wC ad G (f_turnAway (f_writeAbout (sS st 8 p1) p1 2) 3) ++ wr)) ⟨hx, hb, hml, hown, hts⟩ (c_S_turnAway l G ad (f_writeAbout (sS st 8 p1) p1 2) wr _ 3 (by first | assumption | exact hI.2.2.2.1 | exact hI.2.2.2.2 | (unfold vp_in; decide) | exact Or.inr (by assumption) | exact cof_mem hI | (intro a h; cases h; assumption) | exact (hI.2.1 _ (by assumption)).1)) (cwV 1 hts gV_S_127 rfl rfl rfl (by decide +kernel) ⟨Nat.le_of_ble_eq_true rfl, Nat.le_of_ble_eq_true rfl⟩) h0 hw 0 rfl rfl rfl rfl hl.1 rfl (Nat.le_of_ble_eq_true rfl) d_S_insert_64 ⟨Nat.le_of_ble_eq_true rfl, Nat.le_of_ble_eq_true rfl⟩ (fun H locs hw => ?_)
      have hI : InvC (f_turnAway (f_writeAbout (sS st 8 p1) p1 2) 3) := inv_f_turnAway hI
      refine lv_aload_n hx hb d_S_insert_67 rfl (lv_at hl 0 rfl) ?_
      refine va_get (D := G.1) (ci := 2) (v := .int ((f_turnAway (f_writeAbout (sS st 8 p1) p1 2) 3).1 6)) (C := R_S) (T := T_S) (N := 14) hx hb hts in_S hown h0.1 hw.1 0 rfl rfl 6 (by decide) (hg (.fieldLink R_S 37 "SecureEntry" "userState" "I") (by decide +kernel)) (fun _ h9 => h9) rfl d_S_insert_68 ?_
      exact vx_ret (z_iret (wf := fun u : CS => (wC ad G u ++ wr)) (u := (f_turnAway (f_writeAbout (sS st 8 p1) p1 2) 3)) hx hb hr hlocks h0 hw rfl (by rw [f_insert, hn_1, exo_none, hn_5, exo_none, hn_10, exo_none, hn_17, exo_none, if_pos c_36, if_pos c_51]) (Nat.le_of_ble_eq_true rfl) (Nat.le_of_ble_eq_true rfl) d_S_insert_71)
    · refine lv_aload_n hx hb d_S_insert_54 rfl (lv_at hl 0 rfl) ?_
      refine lv_iconst (v := 1) hx hb d_S_insert_55 (by decide) ?_
      refine z_Vv0 (As := [.int 1]) (ws1 := (wC ad G (f_becomeUserState (f_writeAbout (sS st 8 p1) p1 2) 1) ++ wr)) ⟨hx, hb, hml, hown, hts⟩ (c_S_becomeUserState l G ad (f_writeAbout (sS st 8 p1) p1 2) wr _ 1) (cwV 1 hts gV_S_98 rfl rfl rfl (by decide +kernel) ⟨Nat.le_of_ble_eq_true rfl, Nat.le_of_ble_eq_true rfl⟩) h0 hw 0 rfl rfl rfl rfl hl.1 rfl (Nat.le_of_ble_eq_true rfl) d_S_insert_56 ⟨Nat.le_of_ble_eq_true rfl, Nat.le_of_ble_eq_true rfl⟩ (fun H locs hw => ?_)
      have hI : InvC (f_becomeUserState (f_writeAbout (sS st 8 p1) p1 2) 1) := inv_f_becomeUserState hI
      refine lv_goto (tgt := 67) hx hb d_S_insert_59 (by decide) ?_
      refine lv_aload_n hx hb d_S_insert_67 rfl (lv_at hl 0 rfl) ?_
      refine va_get (D := G.1) (ci := 2) (v := .int ((f_becomeUserState (f_writeAbout (sS st 8 p1) p1 2) 1).1 6)) (C := R_S) (T := T_S) (N := 14) hx hb hts in_S hown h0.1 hw.1 0 rfl rfl 6 (by decide) (hg (.fieldLink R_S 37 "SecureEntry" "userState" "I") (by decide +kernel)) (fun _ h9 => h9) rfl d_S_insert_68 ?_
      exact vx_ret (z_iret (wf := fun u : CS => (wC ad G u ++ wr)) (u := (f_becomeUserState (f_writeAbout (sS st 8 p1) p1 2) 1)) hx hb hr hlocks h0 hw rfl (by rw [f_insert, hn_1, exo_none, hn_5, exo_none, hn_10, exo_none, hn_17, exo_none, if_pos c_36, if_neg c_51]) (Nat.le_of_ble_eq_true rfl) (Nat.le_of_ble_eq_true rfl) d_S_insert_71)
  · refine lv_aload_n hx hb d_S_insert_39 rfl (lv_at hl 0 rfl) ?_
    refine z_Vv0 (As := []) (ws1 := (wC ad G (f_allowEntry (f_writeAbout (sS st 8 p1) p1 2)) ++ wr)) ⟨hx, hb, hml, hown, hts⟩ (c_S_allowEntry l G ad (f_writeAbout (sS st 8 p1) p1 2) wr _  (by first | assumption | exact hI.2.2.2.1 | exact hI.2.2.2.2 | (unfold vp_in; decide) | exact Or.inr (by assumption) | exact cof_mem hI | (intro a h; cases h; assumption) | exact (hI.2.1 _ (by assumption)).1)) (cwV 0 hts gV_S_121 rfl rfl rfl (by decide +kernel) ⟨Nat.le_of_ble_eq_true rfl, Nat.le_of_ble_eq_true rfl⟩) h0 hw 0 rfl rfl rfl rfl hl.1 rfl (Nat.le_of_ble_eq_true rfl) d_S_insert_40 ⟨Nat.le_of_ble_eq_true rfl, Nat.le_of_ble_eq_true rfl⟩ (fun H locs hw => ?_)
    have hI : InvC (f_allowEntry (f_writeAbout (sS st 8 p1) p1 2)) := inv_f_allowEntry hI
    refine lv_goto (tgt := 67) hx hb d_S_insert_43 (by decide) ?_
    refine lv_aload_n hx hb d_S_insert_67 rfl (lv_at hl 0 rfl) ?_
    refine va_get (D := G.1) (ci := 2) (v := .int ((f_allowEntry (f_writeAbout (sS st 8 p1) p1 2)).1 6)) (C := R_S) (T := T_S) (N := 14) hx hb hts in_S hown h0.1 hw.1 0 rfl rfl 6 (by decide) (hg (.fieldLink R_S 37 "SecureEntry" "userState" "I") (by decide +kernel)) (fun _ h9 => h9) rfl d_S_insert_68 ?_
    exact vx_ret (z_iret (wf := fun u : CS => (wC ad G u ++ wr)) (u := (f_allowEntry (f_writeAbout (sS st 8 p1) p1 2))) hx hb hr hlocks h0 hw rfl (by rw [f_insert, hn_1, exo_none, hn_5, exo_none, hn_10, exo_none, hn_17, exo_none, if_neg c_36]) (Nat.le_of_ble_eq_true rfl) (Nat.le_of_ble_eq_true rfl) d_S_insert_71)
end CON
end
section
section CON
set_option maxHeartbeats 4000000 in
set_option maxRecDepth 100000 in
theorem c_S_logon (l : Launch) (hl9 : l.stackTraces = false) (G : gG) (ad : Nat → Nat) (st : CS) (wr : va_W) (sz : Nat) (p1 : Int32) (hI : InvC st) : vx_Met l y_S_logon w_S_logon { frames := 7, cells := 4, slots := 24, locals := 106 } (va_Pc [.ref (ad 0), .int p1] (z_pre G (wC ad G st ++ wr) sz)) (z_Qi G (wC ad G st ++ wr) sz (fun u : CS => (wC ad G u ++ wr)) (fun r u => f_logon st p1 = .inr (r, u))) (z_X G (wC ad G st ++ wr) sz (fun E => f_logon st p1 = .inl E)) 4 24 (va_A (wC ad G st ++ wr) sz) := by
  refine vx_ofW (cc := b_S_logon) (maxL := 2) (ret := (some .int)) (by decide) rfl ?_
  intro p e s m args below meth c s₁ B hml hex hv
  obtain ⟨rfl, hsz, hP, hK, hD0, ham⟩ := hv
  subst hsz
  have hx := B.exec
  have hb := B.bytes
  have hr := B.returns
  have hts : ∀ w ∈ goT, w.before _ s = true := fun w h => atoms_spec (ws := w_S_logon) B.pre w (List.mem_cons_of_mem _ h)
  have hg : ∀ w, goB w = true → w.before _ s = true := fun w h => hts w (goI h)
  have hown : s.vm.findClass R_S = some m.cls := findClass_of_methodNamed B.named
  have hlocks := B.notSynchronized
  have h0 : z_st G (wC ad G st ++ wr) s := ⟨hK, ham⟩
  have hw : z_wl G (wC ad G st ++ wr) s (wC ad G st ++ wr) s.heap [] := z_0 hP hD0
  have hl := lv_entry ([.ref (ad 0), .int p1]) (n := 2) (Nat.le_of_ble_eq_true rfl)
  rw [lg_entry_eq]
  generalize (lg_sl ([.ref (ad 0), .int p1]) ++ List.replicate (2 - (lg_sl ([.ref (ad 0), .int p1])).length) Slot.unset).toArray = ls at hl ⊢
  have hl : lv_has ls 2 [(0, .ref (ad 0)), (1, .int p1)] := hl
  refine lv_aload_n hx hb d_S_logon_0 rfl (lv_at hl 0 rfl) ?_
  refine z_VXn (As := []) (P := fun E => (f_requireUp st) = some E) (N := (f_requireUp st) = none) ⟨hx, hb, hml, hown, hts⟩ (c_S_requireUp l hl9 G ad st wr _) (cwV 0 hts gV_S_108 rfl rfl rfl (by decide +kernel) ⟨Nat.le_of_ble_eq_true rfl, Nat.le_of_ble_eq_true rfl⟩) h0 hw 0 rfl rfl rfl rfl hl.1 rfl (Nat.le_of_ble_eq_true rfl) d_S_logon_1 ⟨Nat.le_of_ble_eq_true rfl, Nat.le_of_ble_eq_true rfl⟩ (fun E ce q9 H locs hE hw hce hcv hcl => z_out hex hlocks h0 hw hce hcv hcl (by rw [f_logon, hE, exo_some]) (Nat.le_of_ble_eq_true rfl) (Nat.le_of_ble_eq_true rfl)) (fun H locs hn_1 hw => ?_)
  refine lv_iload_n hx hb d_S_logon_4 rfl (lv_at hl 1 rfl) ?_
  refine z_SXn (As := [.int p1]) (P := fun E => (f_requireToken p1) = some E) (N := (f_requireToken p1) = none) ⟨hx, hb, hml, hown, hts⟩ (c_S_requireToken l hl9 G (wC ad G st ++ wr) _ p1) (cwS 1 hts gS_S_65 rfl rfl rfl (by decide +kernel) ⟨Nat.le_of_ble_eq_true rfl, Nat.le_of_ble_eq_true rfl⟩) h0 hw rfl hl.1 rfl (Nat.le_of_ble_eq_true rfl) d_S_logon_5 ⟨Nat.le_of_ble_eq_true rfl, Nat.le_of_ble_eq_true rfl⟩ (fun E ce q9 H locs hE hw hce hcv hcl => z_out hex hlocks h0 hw hce hcv hcl (by rw [f_logon, hn_1, exo_none, hE, exo_some]) (Nat.le_of_ble_eq_true rfl) (Nat.le_of_ble_eq_true rfl)) (fun H locs hn_5 hw => ?_)
  have hp1 : vp_in p1 6 := rtk_in hn_5
  refine lv_aload_n hx hb d_S_logon_8 rfl (lv_at hl 0 rfl) ?_
  refine lv_iload_n hx hb d_S_logon_9 rfl (lv_at hl 1 rfl) ?_
  refine z_VXn (As := [.int p1]) (P := fun E => (f_requireInNoReader st p1) = some E) (N := (f_requireInNoReader st p1) = none) ⟨hx, hb, hml, hown, hts⟩ (c_S_requireInNoReader l hl9 G ad st wr _ p1) (cwV 1 hts gV_S_73 rfl rfl rfl (by decide +kernel) ⟨Nat.le_of_ble_eq_true rfl, Nat.le_of_ble_eq_true rfl⟩) h0 hw 0 rfl rfl rfl rfl hl.1 rfl (Nat.le_of_ble_eq_true rfl) d_S_logon_10 ⟨Nat.le_of_ble_eq_true rfl, Nat.le_of_ble_eq_true rfl⟩ (fun E ce q9 H locs hE hw hce hcv hcl => z_out hex hlocks h0 hw hce hcv hcl (by rw [f_logon, hn_1, exo_none, hn_5, exo_none, hE, exo_some]) (Nat.le_of_ble_eq_true rfl) (Nat.le_of_ble_eq_true rfl)) (fun H locs hn_10 hw => ?_)
  refine lv_aload_n hx hb d_S_logon_13 rfl (lv_at hl 0 rfl) ?_
  refine va_get (D := G.1) (ci := 2) (v := .int (st.1 9)) (C := R_S) (T := T_S) (N := 14) hx hb hts in_S hown h0.1 hw.1 0 rfl rfl 9 (by decide) (hg (.fieldLink R_S 44 "SecureEntry" "innerToken" "I") (by decide +kernel)) (fun _ h9 => h9) rfl d_S_logon_14 ?_
  refine z_SXn (As := [.int (st.1 9)]) (P := fun E => (f_requireEmpty (st.1 9)) = some E) (N := (f_requireEmpty (st.1 9)) = none) ⟨hx, hb, hml, hown, hts⟩ (c_S_requireEmpty l hl9 G (wC ad G st ++ wr) _ (st.1 9)) (cwS 1 hts gS_S_111 rfl rfl rfl (by decide +kernel) ⟨Nat.le_of_ble_eq_true rfl, Nat.le_of_ble_eq_true rfl⟩) h0 hw rfl hl.1 rfl (Nat.le_of_ble_eq_true rfl) d_S_logon_17 ⟨Nat.le_of_ble_eq_true rfl, Nat.le_of_ble_eq_true rfl⟩ (fun E ce q9 H locs hE hw hce hcv hcl => z_out hex hlocks h0 hw hce hcv hcl (by rw [f_logon, hn_1, exo_none, hn_5, exo_none, hn_10, exo_none, hE, exo_some]) (Nat.le_of_ble_eq_true rfl) (Nat.le_of_ble_eq_true rfl)) (fun H locs hn_17 hw => ?_)
  refine lv_aload_n hx hb d_S_logon_20 rfl (lv_at hl 0 rfl) ?_
  refine lv_iload_n hx hb d_S_logon_21 rfl (lv_at hl 1 rfl) ?_
  refine va_put (D := G.1) (ci := 2) (v := .int p1) (ty := .int) (C := R_S) (T := T_S) (N := 14) hx hb hts in_S ty_S ty_S_ok n_S hown h0.1 hw.1 hw.2.1 hw.2.2 0 rfl rfl 9 (by decide) (hg (.fieldLink R_S 44 "SecureEntry" "innerToken" "I") (by decide +kernel)) (fun _ h9 => h9) rfl (by decide +kernel) rfl rfl (Nat.le_of_ble_eq_true rfl) d_S_logon_22 (fun H locs hP hD hS => ?_)
  have hI : InvC (sS st 9 p1) := inv_tok9 hI (by exact Or.inr (by assumption))
  have hw : z_wl G (wC ad G st ++ wr) s (wC ad G (sS st 9 p1) ++ wr) H locs := ⟨hP, hD, hS⟩
  refine lv_aload_n hx hb d_S_logon_25 rfl (lv_at hl 0 rfl) ?_
  refine lv_aload_n hx hb d_S_logon_26 rfl (lv_at hl 0 rfl) ?_
  refine lv_iload_n hx hb d_S_logon_27 rfl (lv_at hl 1 rfl) ?_
  refine z_Vi0 (As := [.int p1]) (v := (f_isAuthorised (sS st 9 p1) p1)) ⟨hx, hb, hml, hown, hts⟩ (c_S_isAuthorised l G ad (sS st 9 p1) wr _ p1 (by first | assumption | exact hI.2.2.2.1 | exact hI.2.2.2.2 | (unfold vp_in; decide) | exact Or.inr (by assumption) | exact cof_mem hI | (intro a h; cases h; assumption) | exact (hI.2.1 _ (by assumption)).1) (by first | assumption | exact hI.2.2.2.1 | exact hI.2.2.2.2 | (unfold vp_in; decide) | exact Or.inr (by assumption) | exact cof_mem hI | (intro a h; cases h; assumption) | exact (hI.2.1 _ (by assumption)).1)) (cwV 1 hts gV_S_118 rfl rfl rfl (by decide +kernel) ⟨Nat.le_of_ble_eq_true rfl, Nat.le_of_ble_eq_true rfl⟩) h0 hw 0 rfl rfl rfl rfl hl.1 rfl (Nat.le_of_ble_eq_true rfl) d_S_logon_28 ⟨Nat.le_of_ble_eq_true rfl, Nat.le_of_ble_eq_true rfl⟩ (fun H locs hw => ?_)
  refine lv_if_eq (tgt := 42) hx hb d_S_logon_31 (by decide) (fun c_31 => ?_) (fun c_31 => ?_)
  · refine lv_iconst (v := 0) hx hb d_S_logon_42 (by decide) ?_
    refine va_put (D := G.1) (ci := 2) (v := .int 0) (ty := .int) (C := R_S) (T := T_S) (N := 14) hx hb hts in_S ty_S ty_S_ok n_S hown h0.1 hw.1 hw.2.1 hw.2.2 0 rfl rfl 10 (by decide) (hg (.fieldLink R_S 47 "SecureEntry" "administratorRole" "I") (by decide +kernel)) (fun _ h9 => h9) rfl (by decide +kernel) rfl rfl (Nat.le_of_ble_eq_true rfl) d_S_logon_43 (fun H locs hP hD hS => ?_)
    have hI : InvC (sS (sS st 9 p1) 10 0) := inv_sS hI (by decide)
    have hw : z_wl G (wC ad G st ++ wr) s (wC ad G (sS (sS st 9 p1) 10 0) ++ wr) H locs := ⟨hP, hD, hS⟩
    refine lv_aload_n hx hb d_S_logon_46 rfl (lv_at hl 0 rfl) ?_
    refine lv_iload_n hx hb d_S_logon_47 rfl (lv_at hl 1 rfl) ?_
    refine lv_aload_n hx hb d_S_logon_48 rfl (lv_at hl 0 rfl) ?_
    refine va_get (D := G.1) (ci := 2) (v := .int 0) (C := R_S) (T := T_S) (N := 14) hx hb hts in_S hown h0.1 hw.1 0 rfl rfl 10 (by decide) (hg (.fieldLink R_S 47 "SecureEntry" "administratorRole" "I") (by decide +kernel)) (fun _ h9 => h9) rfl d_S_logon_49 ?_
    refine lv_if_ne (tgt := 60) hx hb d_S_logon_52 (by decide) (fun c_52 => ?_) (fun c_52 => ?_)
    · exact absurd (by decide) c_52
    · refine lv_bipush (v := 16) hx hb d_S_logon_55 (by decide) ?_
      refine lv_goto (tgt := 62) hx hb d_S_logon_57 (by decide) ?_
      refine z_Vv0 (As := [.int p1, .int 16]) (ws1 := (wC ad G (f_writeAbout (sS (sS st 9 p1) 10 0) p1 16) ++ wr)) ⟨hx, hb, hml, hown, hts⟩ (c_S_writeAbout l G ad (sS (sS st 9 p1) 10 0) wr _ p1 16 (by first | assumption | exact hI.2.2.2.1 | exact hI.2.2.2.2 | (unfold vp_in; decide) | exact Or.inr (by assumption) | exact cof_mem hI | (intro a h; cases h; assumption) | exact (hI.2.1 _ (by assumption)).1) (by first | assumption | exact hI.2.2.2.1 | exact hI.2.2.2.2 | (unfold vp_in; decide) | exact Or.inr (by assumption) | exact cof_mem hI | (intro a h; cases h; assumption) | exact (hI.2.1 _ (by assumption)).1)) (cwV 2 hts gV_S_114 rfl rfl rfl (by decide +kernel) ⟨Nat.le_of_ble_eq_true rfl, Nat.le_of_ble_eq_true rfl⟩) h0 hw 0 rfl rfl rfl rfl hl.1 rfl (Nat.le_of_ble_eq_true rfl) d_S_logon_62 ⟨Nat.le_of_ble_eq_true rfl, Nat.le_of_ble_eq_true rfl⟩ (fun H locs hw => ?_)
      have hI : InvC (f_writeAbout (sS (sS st 9 p1) 10 0) p1 16) := inv_f_writeAbout hI
      refine lv_aload_n hx hb d_S_logon_65 rfl (lv_at hl 0 rfl) ?_
      refine va_get (D := G.1) (ci := 2) (v := .int ((f_writeAbout (sS (sS st 9 p1) 10 0) p1 16).1 10)) (C := R_S) (T := T_S) (N := 14) hx hb hts in_S hown h0.1 hw.1 0 rfl rfl 10 (by decide) (hg (.fieldLink R_S 47 "SecureEntry" "administratorRole" "I") (by decide +kernel)) (fun _ h9 => h9) rfl d_S_logon_66 ?_
      exact vx_ret (z_iret (wf := fun u : CS => (wC ad G u ++ wr)) (u := (f_writeAbout (sS (sS st 9 p1) 10 0) p1 16)) hx hb hr hlocks h0 hw rfl (by rw [f_logon, hn_1, exo_none, hn_5, exo_none, hn_10, exo_none, hn_17, exo_none, if_pos c_31]) (Nat.le_of_ble_eq_true rfl) (Nat.le_of_ble_eq_true rfl) d_S_logon_69)
  · refine lv_aload_n hx hb d_S_logon_34 rfl (lv_at hl 0 rfl) ?_
    refine lv_iload_n hx hb d_S_logon_35 rfl (lv_at hl 1 rfl) ?_
    refine z_Vi0 (As := [.int p1]) (v := (f_authorisedRole (sS st 9 p1) p1)) ⟨hx, hb, hml, hown, hts⟩ (c_S_authorisedRole l G ad (sS st 9 p1) wr _ p1 (by first | assumption | exact hI.2.2.2.1 | exact hI.2.2.2.2 | (unfold vp_in; decide) | exact Or.inr (by assumption) | exact cof_mem hI | (intro a h; cases h; assumption) | exact (hI.2.1 _ (by assumption)).1) (by first | assumption | exact hI.2.2.2.1 | exact hI.2.2.2.2 | (unfold vp_in; decide) | exact Or.inr (by assumption) | exact cof_mem hI | (intro a h; cases h; assumption) | exact (hI.2.1 _ (by assumption)).1)) (cwV 1 hts gV_S_148 rfl rfl rfl (by decide +kernel) ⟨Nat.le_of_ble_eq_true rfl, Nat.le_of_ble_eq_true rfl⟩) h0 hw 0 rfl rfl rfl rfl hl.1 rfl (Nat.le_of_ble_eq_true rfl) d_S_logon_36 ⟨Nat.le_of_ble_eq_true rfl, Nat.le_of_ble_eq_true rfl⟩ (fun H locs hw => ?_)
    refine lv_goto (tgt := 43) hx hb d_S_logon_39 (by decide) ?_
    refine va_put (D := G.1) (ci := 2) (v := .int (f_authorisedRole (sS st 9 p1) p1)) (ty := .int) (C := R_S) (T := T_S) (N := 14) hx hb hts in_S ty_S ty_S_ok n_S hown h0.1 hw.1 hw.2.1 hw.2.2 0 rfl rfl 10 (by decide) (hg (.fieldLink R_S 47 "SecureEntry" "administratorRole" "I") (by decide +kernel)) (fun _ h9 => h9) rfl (by decide +kernel) rfl rfl (Nat.le_of_ble_eq_true rfl) d_S_logon_43 (fun H locs hP hD hS => ?_)
    have hI : InvC (sS (sS st 9 p1) 10 (f_authorisedRole (sS st 9 p1) p1)) := inv_sS hI (by decide)
    have hw : z_wl G (wC ad G st ++ wr) s (wC ad G (sS (sS st 9 p1) 10 (f_authorisedRole (sS st 9 p1) p1)) ++ wr) H locs := ⟨hP, hD, hS⟩
    refine lv_aload_n hx hb d_S_logon_46 rfl (lv_at hl 0 rfl) ?_
    refine lv_iload_n hx hb d_S_logon_47 rfl (lv_at hl 1 rfl) ?_
    refine lv_aload_n hx hb d_S_logon_48 rfl (lv_at hl 0 rfl) ?_
    refine va_get (D := G.1) (ci := 2) (v := .int (f_authorisedRole (sS st 9 p1) p1)) (C := R_S) (T := T_S) (N := 14) hx hb hts in_S hown h0.1 hw.1 0 rfl rfl 10 (by decide) (hg (.fieldLink R_S 47 "SecureEntry" "administratorRole" "I") (by decide +kernel)) (fun _ h9 => h9) rfl d_S_logon_49 ?_
    refine lv_if_ne (tgt := 60) hx hb d_S_logon_52 (by decide) (fun c_52 => ?_) (fun c_52 => ?_)
    · refine lv_bipush (v := 10) hx hb d_S_logon_60 (by decide) ?_
      refine z_Vv0 (As := [.int p1, .int 10]) (ws1 := (wC ad G (f_writeAbout (sS (sS st 9 p1) 10 (f_authorisedRole (sS st 9 p1) p1)) p1 10) ++ wr)) ⟨hx, hb, hml, hown, hts⟩ (c_S_writeAbout l G ad (sS (sS st 9 p1) 10 (f_authorisedRole (sS st 9 p1) p1)) wr _ p1 10 (by first | assumption | exact hI.2.2.2.1 | exact hI.2.2.2.2 | (unfold vp_in; decide) | exact Or.inr (by assumption) | exact cof_mem hI | (intro a h; cases h; assumption) | exact (hI.2.1 _ (by assumption)).1) (by first | assumption | exact hI.2.2.2.1 | exact hI.2.2.2.2 | (unfold vp_in; decide) | exact Or.inr (by assumption) | exact cof_mem hI | (intro a h; cases h; assumption) | exact (hI.2.1 _ (by assumption)).1)) (cwV 2 hts gV_S_114 rfl rfl rfl (by decide +kernel) ⟨Nat.le_of_ble_eq_true rfl, Nat.le_of_ble_eq_true rfl⟩) h0 hw 0 rfl rfl rfl rfl hl.1 rfl (Nat.le_of_ble_eq_true rfl) d_S_logon_62 ⟨Nat.le_of_ble_eq_true rfl, Nat.le_of_ble_eq_true rfl⟩ (fun H locs hw => ?_)
      have hI : InvC (f_writeAbout (sS (sS st 9 p1) 10 (f_authorisedRole (sS st 9 p1) p1)) p1 10) := inv_f_writeAbout hI
      refine lv_aload_n hx hb d_S_logon_65 rfl (lv_at hl 0 rfl) ?_
      refine va_get (D := G.1) (ci := 2) (v := .int ((f_writeAbout (sS (sS st 9 p1) 10 (f_authorisedRole (sS st 9 p1) p1)) p1 10).1 10)) (C := R_S) (T := T_S) (N := 14) hx hb hts in_S hown h0.1 hw.1 0 rfl rfl 10 (by decide) (hg (.fieldLink R_S 47 "SecureEntry" "administratorRole" "I") (by decide +kernel)) (fun _ h9 => h9) rfl d_S_logon_66 ?_
      exact vx_ret (z_iret (wf := fun u : CS => (wC ad G u ++ wr)) (u := (f_writeAbout (sS (sS st 9 p1) 10 (f_authorisedRole (sS st 9 p1) p1)) p1 10)) hx hb hr hlocks h0 hw rfl (by rw [f_logon, hn_1, exo_none, hn_5, exo_none, hn_10, exo_none, hn_17, exo_none, if_neg c_31, if_neg c_52]) (Nat.le_of_ble_eq_true rfl) (Nat.le_of_ble_eq_true rfl) d_S_logon_69)
    · refine lv_bipush (v := 16) hx hb d_S_logon_55 (by decide) ?_
      refine lv_goto (tgt := 62) hx hb d_S_logon_57 (by decide) ?_
      refine z_Vv0 (As := [.int p1, .int 16]) (ws1 := (wC ad G (f_writeAbout (sS (sS st 9 p1) 10 (f_authorisedRole (sS st 9 p1) p1)) p1 16) ++ wr)) ⟨hx, hb, hml, hown, hts⟩ (c_S_writeAbout l G ad (sS (sS st 9 p1) 10 (f_authorisedRole (sS st 9 p1) p1)) wr _ p1 16 (by first | assumption | exact hI.2.2.2.1 | exact hI.2.2.2.2 | (unfold vp_in; decide) | exact Or.inr (by assumption) | exact cof_mem hI | (intro a h; cases h; assumption) | exact (hI.2.1 _ (by assumption)).1) (by first | assumption | exact hI.2.2.2.1 | exact hI.2.2.2.2 | (unfold vp_in; decide) | exact Or.inr (by assumption) | exact cof_mem hI | (intro a h; cases h; assumption) | exact (hI.2.1 _ (by assumption)).1)) (cwV 2 hts gV_S_114 rfl rfl rfl (by decide +kernel) ⟨Nat.le_of_ble_eq_true rfl, Nat.le_of_ble_eq_true rfl⟩) h0 hw 0 rfl rfl rfl rfl hl.1 rfl (Nat.le_of_ble_eq_true rfl) d_S_logon_62 ⟨Nat.le_of_ble_eq_true rfl, Nat.le_of_ble_eq_true rfl⟩ (fun H locs hw => ?_)
      have hI : InvC (f_writeAbout (sS (sS st 9 p1) 10 (f_authorisedRole (sS st 9 p1) p1)) p1 16) := inv_f_writeAbout hI
      refine lv_aload_n hx hb d_S_logon_65 rfl (lv_at hl 0 rfl) ?_
      refine va_get (D := G.1) (ci := 2) (v := .int ((f_writeAbout (sS (sS st 9 p1) 10 (f_authorisedRole (sS st 9 p1) p1)) p1 16).1 10)) (C := R_S) (T := T_S) (N := 14) hx hb hts in_S hown h0.1 hw.1 0 rfl rfl 10 (by decide) (hg (.fieldLink R_S 47 "SecureEntry" "administratorRole" "I") (by decide +kernel)) (fun _ h9 => h9) rfl d_S_logon_66 ?_
      exact vx_ret (z_iret (wf := fun u : CS => (wC ad G u ++ wr)) (u := (f_writeAbout (sS (sS st 9 p1) 10 (f_authorisedRole (sS st 9 p1) p1)) p1 16)) hx hb hr hlocks h0 hw rfl (by rw [f_logon, hn_1, exo_none, hn_5, exo_none, hn_10, exo_none, hn_17, exo_none, if_neg c_31, if_pos c_52]) (Nat.le_of_ble_eq_true rfl) (Nat.le_of_ble_eq_true rfl) d_S_logon_69)
set_option maxHeartbeats 4000000 in
set_option maxRecDepth 100000 in
theorem c_S_logoff (l : Launch) (hl9 : l.stackTraces = false) (G : gG) (ad : Nat → Nat) (st : CS) (wr : va_W) (sz : Nat)  (hI : InvC st) : vx_Met l y_S_logoff w_S_logoff { frames := 7, cells := 2, slots := 12, locals := 126 } (va_Pc [.ref (ad 0)] (z_pre G (wC ad G st ++ wr) sz)) (z_Qi G (wC ad G st ++ wr) sz (fun u : CS => (wC ad G u ++ wr)) (fun r u => f_logoff st = .inr (r, u))) (z_X G (wC ad G st ++ wr) sz (fun E => f_logoff st = .inl E)) 2 12 (va_A (wC ad G st ++ wr) sz) := by
  refine vx_ofW (cc := b_S_logoff) (maxL := 2) (ret := (some .int)) (by decide) rfl ?_
  intro p e s m args below meth c s₁ B hml hex hv
  obtain ⟨rfl, hsz, hP, hK, hD0, ham⟩ := hv
  subst hsz
  have hx := B.exec
  have hb := B.bytes
  have hr := B.returns
  have hts : ∀ w ∈ goT, w.before _ s = true := fun w h => atoms_spec (ws := w_S_logoff) B.pre w (List.mem_cons_of_mem _ h)
  have hg : ∀ w, goB w = true → w.before _ s = true := fun w h => hts w (goI h)
  have hown : s.vm.findClass R_S = some m.cls := findClass_of_methodNamed B.named
  have hlocks := B.notSynchronized
  have h0 : z_st G (wC ad G st ++ wr) s := ⟨hK, ham⟩
  have hw : z_wl G (wC ad G st ++ wr) s (wC ad G st ++ wr) s.heap [] := z_0 hP hD0
  have hl := lv_entry ([.ref (ad 0)]) (n := 2) (Nat.le_of_ble_eq_true rfl)
  rw [lg_entry_eq]
  generalize (lg_sl ([.ref (ad 0)]) ++ List.replicate (2 - (lg_sl ([.ref (ad 0)])).length) Slot.unset).toArray = ls at hl ⊢
  have hl : lv_has ls 2 [(0, .ref (ad 0))] := hl
  refine lv_aload_n hx hb d_S_logoff_0 rfl (lv_at hl 0 rfl) ?_
  refine z_VXn (As := []) (P := fun E => (f_requireUp st) = some E) (N := (f_requireUp st) = none) ⟨hx, hb, hml, hown, hts⟩ (c_S_requireUp l hl9 G ad st wr _) (cwV 0 hts gV_S_108 rfl rfl rfl (by decide +kernel) ⟨Nat.le_of_ble_eq_true rfl, Nat.le_of_ble_eq_true rfl⟩) h0 hw 0 rfl rfl rfl rfl hl.1 rfl (Nat.le_of_ble_eq_true rfl) d_S_logoff_1 ⟨Nat.le_of_ble_eq_true rfl, Nat.le_of_ble_eq_true rfl⟩ (fun E ce q9 H locs hE hw hce hcv hcl => z_out hex hlocks h0 hw hce hcv hcl (by rw [f_logoff, hE, exo_some]) (Nat.le_of_ble_eq_true rfl) (Nat.le_of_ble_eq_true rfl)) (fun H locs hn_1 hw => ?_)
  refine lv_aload_n hx hb d_S_logoff_4 rfl (lv_at hl 0 rfl) ?_
  refine va_get (D := G.1) (ci := 2) (v := .int (st.1 9)) (C := R_S) (T := T_S) (N := 14) hx hb hts in_S hown h0.1 hw.1 0 rfl rfl 9 (by decide) (hg (.fieldLink R_S 44 "SecureEntry" "innerToken" "I") (by decide +kernel)) (fun _ h9 => h9) rfl d_S_logoff_5 ?_
  refine z_SXn (As := [.int (st.1 9)]) (P := fun E => (f_requireFilled (st.1 9)) = some E) (N := (f_requireFilled (st.1 9)) = none) ⟨hx, hb, hml, hown, hts⟩ (c_S_requireFilled l hl9 G (wC ad G st ++ wr) _ (st.1 9)) (cwS 1 hts gS_S_142 rfl rfl rfl (by decide +kernel) ⟨Nat.le_of_ble_eq_true rfl, Nat.le_of_ble_eq_true rfl⟩) h0 hw rfl hl.1 rfl (Nat.le_of_ble_eq_true rfl) d_S_logoff_8 ⟨Nat.le_of_ble_eq_true rfl, Nat.le_of_ble_eq_true rfl⟩ (fun E ce q9 H locs hE hw hce hcv hcl => z_out hex hlocks h0 hw hce hcv hcl (by rw [f_logoff, hn_1, exo_none, hE, exo_some]) (Nat.le_of_ble_eq_true rfl) (Nat.le_of_ble_eq_true rfl)) (fun H locs hn_8 hw => ?_)
  refine lv_aload_n hx hb d_S_logoff_11 rfl (lv_at hl 0 rfl) ?_
  refine va_get (D := G.1) (ci := 2) (v := .int (st.1 9)) (C := R_S) (T := T_S) (N := 14) hx hb hts in_S hown h0.1 hw.1 0 rfl rfl 9 (by decide) (hg (.fieldLink R_S 44 "SecureEntry" "innerToken" "I") (by decide +kernel)) (fun _ h9 => h9) rfl d_S_logoff_12 ?_
  refine lv_istore_n (lv' := [(1, .int (st.1 9)), (0, .ref (ad 0))]) hx hb d_S_logoff_15 rfl hl (by decide) rfl (fun ls hl => ?_)
  refine lv_aload_n hx hb d_S_logoff_16 rfl (lv_at hl 1 rfl) ?_
  refine va_get (D := G.1) (ci := 2) (v := .int (st.1 10)) (C := R_S) (T := T_S) (N := 14) hx hb hts in_S hown h0.1 hw.1 0 rfl rfl 10 (by decide) (hg (.fieldLink R_S 47 "SecureEntry" "administratorRole" "I") (by decide +kernel)) (fun _ h9 => h9) rfl d_S_logoff_17 ?_
  refine lv_if_eq (tgt := 27) hx hb d_S_logoff_20 (by decide) (fun c_20 => ?_) (fun c_20 => ?_)
  · refine lv_aload_n hx hb d_S_logoff_27 rfl (lv_at hl 1 rfl) ?_
    refine lv_iconst (v := (-1)) hx hb d_S_logoff_28 (by decide) ?_
    refine va_put (D := G.1) (ci := 2) (v := .int (-1)) (ty := .int) (C := R_S) (T := T_S) (N := 14) hx hb hts in_S ty_S ty_S_ok n_S hown h0.1 hw.1 hw.2.1 hw.2.2 0 rfl rfl 9 (by decide) (hg (.fieldLink R_S 44 "SecureEntry" "innerToken" "I") (by decide +kernel)) (fun _ h9 => h9) rfl (by decide +kernel) rfl rfl (Nat.le_of_ble_eq_true rfl) d_S_logoff_29 (fun H locs hP hD hS => ?_)
    have hI : InvC (sS st 9 (-1)) := inv_tok9 hI (by exact Or.inl rfl)
    have hw : z_wl G (wC ad G st ++ wr) s (wC ad G (sS st 9 (-1)) ++ wr) H locs := ⟨hP, hD, hS⟩
    refine lv_iload_n hx hb d_S_logoff_32 rfl (lv_at hl 0 rfl) ?_
    exact vx_ret (z_iret (wf := fun u : CS => (wC ad G u ++ wr)) (u := (sS st 9 (-1))) hx hb hr hlocks h0 hw rfl (by rw [f_logoff, hn_1, exo_none, hn_8, exo_none, if_pos c_20]) (Nat.le_of_ble_eq_true rfl) (Nat.le_of_ble_eq_true rfl) d_S_logoff_33)
  · refine lv_aload_n hx hb d_S_logoff_23 rfl (lv_at hl 1 rfl) ?_
    refine z_Vv0 (As := []) (ws1 := (wC ad G (f_dismissAdministrator st) ++ wr)) ⟨hx, hb, hml, hown, hts⟩ (c_S_dismissAdministrator l G ad st wr _  (by first | assumption | exact hI.2.2.2.1 | exact hI.2.2.2.2 | (unfold vp_in; decide) | exact Or.inr (by assumption) | exact cof_mem hI | (intro a h; cases h; assumption) | exact (hI.2.1 _ (by assumption)).1)) (cwV 0 hts gV_S_152 rfl rfl rfl (by decide +kernel) ⟨Nat.le_of_ble_eq_true rfl, Nat.le_of_ble_eq_true rfl⟩) h0 hw 0 rfl rfl rfl rfl hl.1 rfl (Nat.le_of_ble_eq_true rfl) d_S_logoff_24 ⟨Nat.le_of_ble_eq_true rfl, Nat.le_of_ble_eq_true rfl⟩ (fun H locs hw => ?_)
    have hI : InvC (f_dismissAdministrator st) := inv_f_dismissAdministrator hI
    refine lv_aload_n hx hb d_S_logoff_27 rfl (lv_at hl 1 rfl) ?_
    refine lv_iconst (v := (-1)) hx hb d_S_logoff_28 (by decide) ?_
    refine va_put (D := G.1) (ci := 2) (v := .int (-1)) (ty := .int) (C := R_S) (T := T_S) (N := 14) hx hb hts in_S ty_S ty_S_ok n_S hown h0.1 hw.1 hw.2.1 hw.2.2 0 rfl rfl 9 (by decide) (hg (.fieldLink R_S 44 "SecureEntry" "innerToken" "I") (by decide +kernel)) (fun _ h9 => h9) rfl (by decide +kernel) rfl rfl (Nat.le_of_ble_eq_true rfl) d_S_logoff_29 (fun H locs hP hD hS => ?_)
    have hI : InvC (sS (f_dismissAdministrator st) 9 (-1)) := inv_tok9 hI (by exact Or.inl rfl)
    have hw : z_wl G (wC ad G st ++ wr) s (wC ad G (sS (f_dismissAdministrator st) 9 (-1)) ++ wr) H locs := ⟨hP, hD, hS⟩
    refine lv_iload_n hx hb d_S_logoff_32 rfl (lv_at hl 0 rfl) ?_
    exact vx_ret (z_iret (wf := fun u : CS => (wC ad G u ++ wr)) (u := (sS (f_dismissAdministrator st) 9 (-1))) hx hb hr hlocks h0 hw rfl (by rw [f_logoff, hn_1, exo_none, hn_8, exo_none, if_neg c_20]) (Nat.le_of_ble_eq_true rfl) (Nat.le_of_ble_eq_true rfl) d_S_logoff_33)
set_option maxHeartbeats 4000000 in
set_option maxRecDepth 100000 in
theorem c_S_override (l : Launch) (hl9 : l.stackTraces = false) (G : gG) (ad : Nat → Nat) (st : CS) (wr : va_W) (sz : Nat)  (hI : InvC st) : vx_Met l y_S_override w_S_override { frames := 7, cells := 3, slots := 18, locals := 106 } (va_Pc [.ref (ad 0)] (z_pre G (wC ad G st ++ wr) sz)) (z_Qi G (wC ad G st ++ wr) sz (fun u : CS => (wC ad G u ++ wr)) (fun r u => f_override st = .inr (r, u))) (z_X G (wC ad G st ++ wr) sz (fun E => f_override st = .inl E)) 3 18 (va_A (wC ad G st ++ wr) sz) := by
  refine vx_ofW (cc := b_S_override) (maxL := 1) (ret := (some .int)) (by decide) rfl ?_
  intro p e s m args below meth c s₁ B hml hex hv
  obtain ⟨rfl, hsz, hP, hK, hD0, ham⟩ := hv
  subst hsz
  have hx := B.exec
  have hb := B.bytes
  have hr := B.returns
  have hts : ∀ w ∈ goT, w.before _ s = true := fun w h => atoms_spec (ws := w_S_override) B.pre w (List.mem_cons_of_mem _ h)
  have hg : ∀ w, goB w = true → w.before _ s = true := fun w h => hts w (goI h)
  have hown : s.vm.findClass R_S = some m.cls := findClass_of_methodNamed B.named
  have hlocks := B.notSynchronized
  have h0 : z_st G (wC ad G st ++ wr) s := ⟨hK, ham⟩
  have hw : z_wl G (wC ad G st ++ wr) s (wC ad G st ++ wr) s.heap [] := z_0 hP hD0
  have hl := lv_entry ([.ref (ad 0)]) (n := 1) (Nat.le_of_ble_eq_true rfl)
  rw [lg_entry_eq]
  generalize (lg_sl ([.ref (ad 0)]) ++ List.replicate (1 - (lg_sl ([.ref (ad 0)])).length) Slot.unset).toArray = ls at hl ⊢
  have hl : lv_has ls 1 [(0, .ref (ad 0))] := hl
  refine lv_aload_n hx hb d_S_override_0 rfl (lv_at hl 0 rfl) ?_
  refine z_VXn (As := []) (P := fun E => (f_requireUp st) = some E) (N := (f_requireUp st) = none) ⟨hx, hb, hml, hown, hts⟩ (c_S_requireUp l hl9 G ad st wr _) (cwV 0 hts gV_S_108 rfl rfl rfl (by decide +kernel) ⟨Nat.le_of_ble_eq_true rfl, Nat.le_of_ble_eq_true rfl⟩) h0 hw 0 rfl rfl rfl rfl hl.1 rfl (Nat.le_of_ble_eq_true rfl) d_S_override_1 ⟨Nat.le_of_ble_eq_true rfl, Nat.le_of_ble_eq_true rfl⟩ (fun E ce q9 H locs hE hw hce hcv hcl => z_out hex hlocks h0 hw hce hcv hcl (by rw [f_override, hE, exo_some]) (Nat.le_of_ble_eq_true rfl) (Nat.le_of_ble_eq_true rfl)) (fun H locs hn_1 hw => ?_)
  refine lv_aload_n hx hb d_S_override_4 rfl (lv_at hl 0 rfl) ?_
  refine z_VXn (As := []) (P := fun E => (f_requireAdministrator st) = some E) (N := (f_requireAdministrator st) = none) ⟨hx, hb, hml, hown, hts⟩ (c_S_requireAdministrator l hl9 G ad st wr _) (cwV 0 hts gV_S_155 rfl rfl rfl (by decide +kernel) ⟨Nat.le_of_ble_eq_true rfl, Nat.le_of_ble_eq_true rfl⟩) h0 hw 0 rfl rfl rfl rfl hl.1 rfl (Nat.le_of_ble_eq_true rfl) d_S_override_5 ⟨Nat.le_of_ble_eq_true rfl, Nat.le_of_ble_eq_true rfl⟩ (fun E ce q9 H locs hE hw hce hcv hcl => z_out hex hlocks h0 hw hce hcv hcl (by rw [f_override, hn_1, exo_none, hE, exo_some]) (Nat.le_of_ble_eq_true rfl) (Nat.le_of_ble_eq_true rfl)) (fun H locs hn_5 hw => ?_)
  refine lv_aload_n hx hb d_S_override_8 rfl (lv_at hl 0 rfl) ?_
  refine lv_iconst (v := 1) hx hb d_S_override_9 (by decide) ?_
  refine z_VXn (As := [.int 1]) (P := fun E => (f_requireRole st 1) = some E) (N := (f_requireRole st 1) = none) ⟨hx, hb, hml, hown, hts⟩ (c_S_requireRole l hl9 G ad st wr _ 1) (cwV 1 hts gV_S_158 rfl rfl rfl (by decide +kernel) ⟨Nat.le_of_ble_eq_true rfl, Nat.le_of_ble_eq_true rfl⟩) h0 hw 0 rfl rfl rfl rfl hl.1 rfl (Nat.le_of_ble_eq_true rfl) d_S_override_10 ⟨Nat.le_of_ble_eq_true rfl, Nat.le_of_ble_eq_true rfl⟩ (fun E ce q9 H locs hE hw hce hcv hcl => z_out hex hlocks h0 hw hce hcv hcl (by rw [f_override, hn_1, exo_none, hn_5, exo_none, hE, exo_some]) (Nat.le_of_ble_eq_true rfl) (Nat.le_of_ble_eq_true rfl)) (fun H locs hn_10 hw => ?_)
  refine lv_aload_n hx hb d_S_override_13 rfl (lv_at hl 0 rfl) ?_
  refine z_Vv0 (As := []) (ws1 := (wC ad G (f_unlock st) ++ wr)) ⟨hx, hb, hml, hown, hts⟩ (c_S_unlock l G ad st wr _) (cwV 0 hts gV_S_145 rfl rfl rfl (by decide +kernel) ⟨Nat.le_of_ble_eq_true rfl, Nat.le_of_ble_eq_true rfl⟩) h0 hw 0 rfl rfl rfl rfl hl.1 rfl (Nat.le_of_ble_eq_true rfl) d_S_override_14 ⟨Nat.le_of_ble_eq_true rfl, Nat.le_of_ble_eq_true rfl⟩ (fun H locs hw => ?_)
  have hI : InvC (f_unlock st) := inv_f_unlock hI
  refine lv_aload_n hx hb d_S_override_17 rfl (lv_at hl 0 rfl) ?_
  refine lv_aload_n hx hb d_S_override_18 rfl (lv_at hl 0 rfl) ?_
  refine va_get (D := G.1) (ci := 2) (v := .int ((f_unlock st).1 9)) (C := R_S) (T := T_S) (N := 14) hx hb hts in_S hown h0.1 hw.1 0 rfl rfl 9 (by decide) (hg (.fieldLink R_S 44 "SecureEntry" "innerToken" "I") (by decide +kernel)) (fun _ h9 => h9) rfl d_S_override_19 ?_
  refine lv_bipush (v := 12) hx hb d_S_override_22 (by decide) ?_
  refine z_Vv0 (As := [.int ((f_unlock st).1 9), .int 12]) (ws1 := (wC ad G (f_writeAbout (f_unlock st) ((f_unlock st).1 9) 12) ++ wr)) ⟨hx, hb, hml, hown, hts⟩ (c_S_writeAbout l G ad (f_unlock st) wr _ ((f_unlock st).1 9) 12 (by first | assumption | exact hI.2.2.2.1 | exact hI.2.2.2.2 | (unfold vp_in; decide) | exact Or.inr (by assumption) | exact cof_mem hI | (intro a h; cases h; assumption) | exact (hI.2.1 _ (by assumption)).1) (by first | assumption | exact hI.2.2.2.1 | exact hI.2.2.2.2 | (unfold vp_in; decide) | exact Or.inr (by assumption) | exact cof_mem hI | (intro a h; cases h; assumption) | exact (hI.2.1 _ (by assumption)).1)) (cwV 2 hts gV_S_114 rfl rfl rfl (by decide +kernel) ⟨Nat.le_of_ble_eq_true rfl, Nat.le_of_ble_eq_true rfl⟩) h0 hw 0 rfl rfl rfl rfl hl.1 rfl (Nat.le_of_ble_eq_true rfl) d_S_override_24 ⟨Nat.le_of_ble_eq_true rfl, Nat.le_of_ble_eq_true rfl⟩ (fun H locs hw => ?_)
  have hI : InvC (f_writeAbout (f_unlock st) ((f_unlock st).1 9) 12) := inv_f_writeAbout hI
  refine lv_aload_n hx hb d_S_override_27 rfl (lv_at hl 0 rfl) ?_
  refine va_get (D := G.1) (ci := 2) (v := .int ((f_writeAbout (f_unlock st) ((f_unlock st).1 9) 12).1 11)) (C := R_S) (T := T_S) (N := 14) hx hb hts in_S hown h0.1 hw.1 0 rfl rfl 11 (by decide) (hg (.fieldLink R_S 161 "SecureEntry" "unlockedUntil" "I") (by decide +kernel)) (fun _ h9 => h9) rfl d_S_override_28 ?_
  exact vx_ret (z_iret (wf := fun u : CS => (wC ad G u ++ wr)) (u := (f_writeAbout (f_unlock st) ((f_unlock st).1 9) 12)) hx hb hr hlocks h0 hw rfl (by rw [f_override, hn_1, exo_none, hn_5, exo_none, hn_10, exo_none]) (Nat.le_of_ble_eq_true rfl) (Nat.le_of_ble_eq_true rfl) d_S_override_31)
set_option maxHeartbeats 4000000 in
set_option maxRecDepth 100000 in
theorem c_S_archive (l : Launch) (hl9 : l.stackTraces = false) (G : gG) (ad : Nat → Nat) (st : CS) (wr : va_W) (sz : Nat)  (hI : InvC st) : vx_Met l y_S_archive w_S_archive { frames := 7, cells := 3, slots := 18, locals := 106 } (va_Pc [.ref (ad 0)] (z_pre G (wC ad G st ++ wr) sz)) (z_Qi G (wC ad G st ++ wr) sz (fun u : CS => (wC ad G u ++ wr)) (fun r u => f_archive st = .inr (r, u))) (z_X G (wC ad G st ++ wr) sz (fun E => f_archive st = .inl E)) 3 18 (va_A (wC ad G st ++ wr) sz) := by
  refine vx_ofW (cc := b_S_archive) (maxL := 2) (ret := (some .int)) (by decide) rfl ?_
  intro p e s m args below meth c s₁ B hml hex hv
  obtain ⟨rfl, hsz, hP, hK, hD0, ham⟩ := hv
  subst hsz
  have hx := B.exec
  have hb := B.bytes
  have hr := B.returns
  have hts : ∀ w ∈ goT, w.before _ s = true := fun w h => atoms_spec (ws := w_S_archive) B.pre w (List.mem_cons_of_mem _ h)
  have hg : ∀ w, goB w = true → w.before _ s = true := fun w h => hts w (goI h)
  have hown : s.vm.findClass R_S = some m.cls := findClass_of_methodNamed B.named
  have hlocks := B.notSynchronized
  have h0 : z_st G (wC ad G st ++ wr) s := ⟨hK, ham⟩
  have hw : z_wl G (wC ad G st ++ wr) s (wC ad G st ++ wr) s.heap [] := z_0 hP hD0
  have hl := lv_entry ([.ref (ad 0)]) (n := 2) (Nat.le_of_ble_eq_true rfl)
  rw [lg_entry_eq]
  generalize (lg_sl ([.ref (ad 0)]) ++ List.replicate (2 - (lg_sl ([.ref (ad 0)])).length) Slot.unset).toArray = ls at hl ⊢
  have hl : lv_has ls 2 [(0, .ref (ad 0))] := hl
  refine lv_aload_n hx hb d_S_archive_0 rfl (lv_at hl 0 rfl) ?_
  refine z_VXn (As := []) (P := fun E => (f_requireUp st) = some E) (N := (f_requireUp st) = none) ⟨hx, hb, hml, hown, hts⟩ (c_S_requireUp l hl9 G ad st wr _) (cwV 0 hts gV_S_108 rfl rfl rfl (by decide +kernel) ⟨Nat.le_of_ble_eq_true rfl, Nat.le_of_ble_eq_true rfl⟩) h0 hw 0 rfl rfl rfl rfl hl.1 rfl (Nat.le_of_ble_eq_true rfl) d_S_archive_1 ⟨Nat.le_of_ble_eq_true rfl, Nat.le_of_ble_eq_true rfl⟩ (fun E ce q9 H locs hE hw hce hcv hcl => z_out hex hlocks h0 hw hce hcv hcl (by rw [f_archive, hE, exo_some]) (Nat.le_of_ble_eq_true rfl) (Nat.le_of_ble_eq_true rfl)) (fun H locs hn_1 hw => ?_)
  refine lv_aload_n hx hb d_S_archive_4 rfl (lv_at hl 0 rfl) ?_
  refine z_VXn (As := []) (P := fun E => (f_requireAdministrator st) = some E) (N := (f_requireAdministrator st) = none) ⟨hx, hb, hml, hown, hts⟩ (c_S_requireAdministrator l hl9 G ad st wr _) (cwV 0 hts gV_S_155 rfl rfl rfl (by decide +kernel) ⟨Nat.le_of_ble_eq_true rfl, Nat.le_of_ble_eq_true rfl⟩) h0 hw 0 rfl rfl rfl rfl hl.1 rfl (Nat.le_of_ble_eq_true rfl) d_S_archive_5 ⟨Nat.le_of_ble_eq_true rfl, Nat.le_of_ble_eq_true rfl⟩ (fun E ce q9 H locs hE hw hce hcv hcl => z_out hex hlocks h0 hw hce hcv hcl (by rw [f_archive, hn_1, exo_none, hE, exo_some]) (Nat.le_of_ble_eq_true rfl) (Nat.le_of_ble_eq_true rfl)) (fun H locs hn_5 hw => ?_)
  refine lv_aload_n hx hb d_S_archive_8 rfl (lv_at hl 0 rfl) ?_
  refine lv_iconst (v := 2) hx hb d_S_archive_9 (by decide) ?_
  refine z_VXn (As := [.int 2]) (P := fun E => (f_requireRole st 2) = some E) (N := (f_requireRole st 2) = none) ⟨hx, hb, hml, hown, hts⟩ (c_S_requireRole l hl9 G ad st wr _ 2) (cwV 1 hts gV_S_158 rfl rfl rfl (by decide +kernel) ⟨Nat.le_of_ble_eq_true rfl, Nat.le_of_ble_eq_true rfl⟩) h0 hw 0 rfl rfl rfl rfl hl.1 rfl (Nat.le_of_ble_eq_true rfl) d_S_archive_10 ⟨Nat.le_of_ble_eq_true rfl, Nat.le_of_ble_eq_true rfl⟩ (fun E ce q9 H locs hE hw hce hcv hcl => z_out hex hlocks h0 hw hce hcv hcl (by rw [f_archive, hn_1, exo_none, hn_5, exo_none, hE, exo_some]) (Nat.le_of_ble_eq_true rfl) (Nat.le_of_ble_eq_true rfl)) (fun H locs hn_10 hw => ?_)
  refine lv_aload_n hx hb d_S_archive_13 rfl (lv_at hl 0 rfl) ?_
  refine va_get (D := G.1) (ci := 2) (v := .ref (ad 4)) (C := R_S) (T := T_S) (N := 14) hx hb hts in_S hown h0.1 hw.1 0 rfl rfl 3 (by decide) (hg (.fieldLink R_S 33 "SecureEntry" "log" "LSecureEntry$Log;") (by decide +kernel)) (fun _ h9 => h9) rfl d_S_archive_14 ?_
  refine va_get (D := G.1) (ci := 1) (v := .int (st.1 14)) (C := R_O) (T := T_O) (N := 5) hx hb hts in_O hown h0.1 hw.1 4 rfl rfl 3 (by decide) (hg (.fieldLink R_S 164 "SecureEntry$Log" "size" "I") (by decide +kernel)) (fun _ h9 => h9) rfl d_S_archive_17 ?_
  refine lv_istore_n (lv' := [(1, .int (st.1 14)), (0, .ref (ad 0))]) hx hb d_S_archive_20 rfl hl (by decide) rfl (fun ls hl => ?_)
  refine lv_aload_n hx hb d_S_archive_21 rfl (lv_at hl 1 rfl) ?_
  refine va_get (D := G.1) (ci := 2) (v := .ref (ad 4)) (C := R_S) (T := T_S) (N := 14) hx hb hts in_S hown h0.1 hw.1 0 rfl rfl 3 (by decide) (hg (.fieldLink R_S 33 "SecureEntry" "log" "LSecureEntry$Log;") (by decide +kernel)) (fun _ h9 => h9) rfl d_S_archive_22 ?_
  refine z_Vv0 (As := []) (ws1 := (wC ad G (f_clear st) ++ wr)) ⟨hx, hb, hml, hown, hts⟩ (c_O_clear l G ad st wr _) (cwV 0 hts gV_S_167 rfl rfl rfl (by decide +kernel) ⟨Nat.le_of_ble_eq_true rfl, Nat.le_of_ble_eq_true rfl⟩) h0 hw 4 rfl rfl rfl rfl hl.1 rfl (Nat.le_of_ble_eq_true rfl) d_S_archive_25 ⟨Nat.le_of_ble_eq_true rfl, Nat.le_of_ble_eq_true rfl⟩ (fun H locs hw => ?_)
  have hI : InvC (f_clear st) := inv_f_clear hI
  refine lv_aload_n hx hb d_S_archive_28 rfl (lv_at hl 1 rfl) ?_
  refine lv_aload_n hx hb d_S_archive_29 rfl (lv_at hl 1 rfl) ?_
  refine va_get (D := G.1) (ci := 2) (v := .int ((f_clear st).1 9)) (C := R_S) (T := T_S) (N := 14) hx hb hts in_S hown h0.1 hw.1 0 rfl rfl 9 (by decide) (hg (.fieldLink R_S 44 "SecureEntry" "innerToken" "I") (by decide +kernel)) (fun _ h9 => h9) rfl d_S_archive_30 ?_
  refine lv_bipush (v := 13) hx hb d_S_archive_33 (by decide) ?_
  refine z_Vv0 (As := [.int ((f_clear st).1 9), .int 13]) (ws1 := (wC ad G (f_writeAbout (f_clear st) ((f_clear st).1 9) 13) ++ wr)) ⟨hx, hb, hml, hown, hts⟩ (c_S_writeAbout l G ad (f_clear st) wr _ ((f_clear st).1 9) 13 (by first | assumption | exact hI.2.2.2.1 | exact hI.2.2.2.2 | (unfold vp_in; decide) | exact Or.inr (by assumption) | exact cof_mem hI | (intro a h; cases h; assumption) | exact (hI.2.1 _ (by assumption)).1) (by first | assumption | exact hI.2.2.2.1 | exact hI.2.2.2.2 | (unfold vp_in; decide) | exact Or.inr (by assumption) | exact cof_mem hI | (intro a h; cases h; assumption) | exact (hI.2.1 _ (by assumption)).1)) (cwV 2 hts gV_S_114 rfl rfl rfl (by decide +kernel) ⟨Nat.le_of_ble_eq_true rfl, Nat.le_of_ble_eq_true rfl⟩) h0 hw 0 rfl rfl rfl rfl hl.1 rfl (Nat.le_of_ble_eq_true rfl) d_S_archive_35 ⟨Nat.le_of_ble_eq_true rfl, Nat.le_of_ble_eq_true rfl⟩ (fun H locs hw => ?_)
  have hI : InvC (f_writeAbout (f_clear st) ((f_clear st).1 9) 13) := inv_f_writeAbout hI
  refine lv_iload_n hx hb d_S_archive_38 rfl (lv_at hl 0 rfl) ?_
  exact vx_ret (z_iret (wf := fun u : CS => (wC ad G u ++ wr)) (u := (f_writeAbout (f_clear st) ((f_clear st).1 9) 13)) hx hb hr hlocks h0 hw rfl (by rw [f_archive, hn_1, exo_none, hn_5, exo_none, hn_10, exo_none]) (Nat.le_of_ble_eq_true rfl) (Nat.le_of_ble_eq_true rfl) d_S_archive_39)
end CON
end
section
section CON
set_option maxHeartbeats 4000000 in
set_option maxRecDepth 100000 in
theorem c_S_configure (l : Launch) (hl9 : l.stackTraces = false) (G : gG) (ad : Nat → Nat) (st : CS) (wr : va_W) (sz : Nat) (p1 : Int32) (p2 : Int32) (hI : InvC st) : vx_Met l y_S_configure w_S_configure { frames := 7, cells := 4, slots := 24, locals := 106 } (va_Pc [.ref (ad 0), .int p1, .int p2] (z_pre G (wC ad G st ++ wr) sz)) (z_Qi G (wC ad G st ++ wr) sz (fun u : CS => (wC ad G u ++ wr)) (fun r u => f_configure st p1 p2 = .inr (r, u))) (z_X G (wC ad G st ++ wr) sz (fun E => f_configure st p1 p2 = .inl E)) 4 24 (va_A (wC ad G st ++ wr) sz) := by
  refine vx_ofW (cc := b_S_configure) (maxL := 4) (ret := (some .int)) (by decide) rfl ?_
  intro p e s m args below meth c s₁ B hml hex hv
  obtain ⟨rfl, hsz, hP, hK, hD0, ham⟩ := hv
  subst hsz
  have hx := B.exec
  have hb := B.bytes
  have hr := B.returns
  have hts : ∀ w ∈ goT, w.before _ s = true := fun w h => atoms_spec (ws := w_S_configure) B.pre w (List.mem_cons_of_mem _ h)
  have hg : ∀ w, goB w = true → w.before _ s = true := fun w h => hts w (goI h)
  have hown : s.vm.findClass R_S = some m.cls := findClass_of_methodNamed B.named
  have hlocks := B.notSynchronized
  have h0 : z_st G (wC ad G st ++ wr) s := ⟨hK, ham⟩
  have hw : z_wl G (wC ad G st ++ wr) s (wC ad G st ++ wr) s.heap [] := z_0 hP hD0
  have hl := lv_entry ([.ref (ad 0), .int p1, .int p2]) (n := 4) (Nat.le_of_ble_eq_true rfl)
  rw [lg_entry_eq]
  generalize (lg_sl ([.ref (ad 0), .int p1, .int p2]) ++ List.replicate (4 - (lg_sl ([.ref (ad 0), .int p1, .int p2])).length) Slot.unset).toArray = ls at hl ⊢
  have hl : lv_has ls 4 [(0, .ref (ad 0)), (1, .int p1), (2, .int p2)] := hl
  refine lv_aload_n hx hb d_S_configure_0 rfl (lv_at hl 0 rfl) ?_
  refine z_VXn (As := []) (P := fun E => (f_requireUp st) = some E) (N := (f_requireUp st) = none) ⟨hx, hb, hml, hown, hts⟩ (c_S_requireUp l hl9 G ad st wr _) (cwV 0 hts gV_S_108 rfl rfl rfl (by decide +kernel) ⟨Nat.le_of_ble_eq_true rfl, Nat.le_of_ble_eq_true rfl⟩) h0 hw 0 rfl rfl rfl rfl hl.1 rfl (Nat.le_of_ble_eq_true rfl) d_S_configure_1 ⟨Nat.le_of_ble_eq_true rfl, Nat.le_of_ble_eq_true rfl⟩ (fun E ce q9 H locs hE hw hce hcv hcl => z_out hex hlocks h0 hw hce hcv hcl (by rw [f_configure, hE, exo_some]) (Nat.le_of_ble_eq_true rfl) (Nat.le_of_ble_eq_true rfl)) (fun H locs hn_1 hw => ?_)
  refine lv_aload_n hx hb d_S_configure_4 rfl (lv_at hl 0 rfl) ?_
  refine z_VXn (As := []) (P := fun E => (f_requireAdministrator st) = some E) (N := (f_requireAdministrator st) = none) ⟨hx, hb, hml, hown, hts⟩ (c_S_requireAdministrator l hl9 G ad st wr _) (cwV 0 hts gV_S_155 rfl rfl rfl (by decide +kernel) ⟨Nat.le_of_ble_eq_true rfl, Nat.le_of_ble_eq_true rfl⟩) h0 hw 0 rfl rfl rfl rfl hl.1 rfl (Nat.le_of_ble_eq_true rfl) d_S_configure_5 ⟨Nat.le_of_ble_eq_true rfl, Nat.le_of_ble_eq_true rfl⟩ (fun E ce q9 H locs hE hw hce hcv hcl => z_out hex hlocks h0 hw hce hcv hcl (by rw [f_configure, hn_1, exo_none, hE, exo_some]) (Nat.le_of_ble_eq_true rfl) (Nat.le_of_ble_eq_true rfl)) (fun H locs hn_5 hw => ?_)
  refine lv_aload_n hx hb d_S_configure_8 rfl (lv_at hl 0 rfl) ?_
  refine lv_iconst (v := 3) hx hb d_S_configure_9 (by decide) ?_
  refine z_VXn (As := [.int 3]) (P := fun E => (f_requireRole st 3) = some E) (N := (f_requireRole st 3) = none) ⟨hx, hb, hml, hown, hts⟩ (c_S_requireRole l hl9 G ad st wr _ 3) (cwV 1 hts gV_S_158 rfl rfl rfl (by decide +kernel) ⟨Nat.le_of_ble_eq_true rfl, Nat.le_of_ble_eq_true rfl⟩) h0 hw 0 rfl rfl rfl rfl hl.1 rfl (Nat.le_of_ble_eq_true rfl) d_S_configure_10 ⟨Nat.le_of_ble_eq_true rfl, Nat.le_of_ble_eq_true rfl⟩ (fun E ce q9 H locs hE hw hce hcv hcl => z_out hex hlocks h0 hw hce hcv hcl (by rw [f_configure, hn_1, exo_none, hn_5, exo_none, hE, exo_some]) (Nat.le_of_ble_eq_true rfl) (Nat.le_of_ble_eq_true rfl)) (fun H locs hn_10 hw => ?_)
  refine lv_iload_n hx hb d_S_configure_13 rfl (lv_at hl 1 rfl) ?_
  refine lv_iconst (v := 0) hx hb d_S_configure_14 (by decide) ?_
  refine lv_iconst (v := 5) hx hb d_S_configure_15 (by decide) ?_
  refine z_Si0 (As := [.int p1, .int 0, .int 5]) (v := (f_isWithin p1 0 5)) ⟨hx, hb, hml, hown, hts⟩ (c_S_isWithin l G (wC ad G st ++ wr) _ p1 0 5) (cwS 3 hts gS_S_69 rfl rfl rfl (by decide +kernel) ⟨Nat.le_of_ble_eq_true rfl, Nat.le_of_ble_eq_true rfl⟩) h0 hw rfl hl.1 rfl (Nat.le_of_ble_eq_true rfl) d_S_configure_16 ⟨Nat.le_of_ble_eq_true rfl, Nat.le_of_ble_eq_true rfl⟩ (fun H locs hw => ?_)
  refine lv_if_eq (tgt := 35) hx hb d_S_configure_19 (by decide) (fun c_19 => ?_) (fun c_19 => ?_)
  · exact z_throw0 (cls := "java/lang/IllegalArgumentException") (ic := 56) hx hb hl9 hown (hg (.classLink R_S 54 "java/lang/IllegalArgumentException") (by decide +kernel)) (hg (.initialized "java/lang/IllegalArgumentException") (by decide +kernel)) (hat_S56 hts h0.2.1) (by decide +kernel) h0 hw (hl.1.trans hml.symm) d_S_configure_35 d_S_configure_38 d_S_configure_39 d_S_configure_42 hex (Nat.le_of_ble_eq_true rfl) (Nat.le_of_ble_eq_true rfl) (Nat.le_of_ble_eq_true rfl) (Nat.le_of_ble_eq_true rfl) hlocks (by rw [f_configure, hn_1, exo_none, hn_5, exo_none, hn_10, exo_none, if_pos c_19]) (Nat.le_of_ble_eq_true rfl) (Nat.le_of_ble_eq_true rfl)
  · have hp1 : vp_in p1 6 := win_in c_19 (by decide)
    refine lv_iload_n hx hb d_S_configure_22 rfl (lv_at hl 2 rfl) ?_
    refine lv_iconst (v := 0) hx hb d_S_configure_23 (by decide) ?_
    refine va_gets hx hb h0.2.2.2.2.1 hw.2.2 hown (hg (.fieldLink R_S 170 "SecureEntry" "HIGHEST_CONFIGURATION" "[I") (by decide +kernel)) (fun _ h9 => h9) d_S_configure_24 ?_
    refine lv_iload_n hx hb d_S_configure_27 rfl (lv_at hl 1 rfl) ?_
    refine va_ti (v := .int (hiC p1.toNatClampNeg)) hx hb h0.2.2.2.2.2 hw.2.2 (show vp_in p1 6 by assumption) rfl d_S_configure_28 ?_
    refine z_Si0 (As := [.int p2, .int 0, .int (hiC p1.toNatClampNeg)]) (v := (f_isWithin p2 0 (hiC p1.toNatClampNeg))) ⟨hx, hb, hml, hown, hts⟩ (c_S_isWithin l G (wC ad G st ++ wr) _ p2 0 (hiC p1.toNatClampNeg)) (cwS 3 hts gS_S_69 rfl rfl rfl (by decide +kernel) ⟨Nat.le_of_ble_eq_true rfl, Nat.le_of_ble_eq_true rfl⟩) h0 hw rfl hl.1 rfl (Nat.le_of_ble_eq_true rfl) d_S_configure_29 ⟨Nat.le_of_ble_eq_true rfl, Nat.le_of_ble_eq_true rfl⟩ (fun H locs hw => ?_)
    refine lv_if_ne (tgt := 43) hx hb d_S_configure_32 (by decide) (fun c_32 => ?_) (fun c_32 => ?_)
    · refine lv_aload_n hx hb d_S_configure_43 rfl (lv_at hl 0 rfl) ?_
      refine va_get (D := G.1) (ci := 2) (v := .ref (ad 1)) (C := R_S) (T := T_S) (N := 14) hx hb hts in_S hown h0.1 hw.1 0 rfl rfl 0 (by decide) (hg (.fieldLink R_S 18 "SecureEntry" "configuration" "[I") (by decide +kernel)) (fun _ h9 => h9) rfl d_S_configure_44 ?_
      refine lv_iload_n hx hb d_S_configure_47 rfl (lv_at hl 1 rfl) ?_
      refine va_iald hx hb h0.1 hw.1 1 0 rfl rfl (show vp_in p1 6 by assumption) d_S_configure_48 ?_
      refine lv_istore_n (lv' := [(3, .int ((st.2.1 0) p1.toNatClampNeg)), (0, .ref (ad 0)), (1, .int p1), (2, .int p2)]) hx hb d_S_configure_49 rfl hl (by decide) rfl (fun ls hl => ?_)
      refine lv_aload_n hx hb d_S_configure_50 rfl (lv_at hl 1 rfl) ?_
      refine va_get (D := G.1) (ci := 2) (v := .ref (ad 1)) (C := R_S) (T := T_S) (N := 14) hx hb hts in_S hown h0.1 hw.1 0 rfl rfl 0 (by decide) (hg (.fieldLink R_S 18 "SecureEntry" "configuration" "[I") (by decide +kernel)) (fun _ h9 => h9) rfl d_S_configure_51 ?_
      refine lv_iload_n hx hb d_S_configure_54 rfl (lv_at hl 2 rfl) ?_
      refine lv_iload_n hx hb d_S_configure_55 rfl (lv_at hl 3 rfl) ?_
      refine va_iast hx hb h0.1 hw.1 hw.2.1 hw.2.2 1 0 rfl rfl (show vp_in p1 6 by assumption) d_S_configure_56 (fun H locs hP hD hS => ?_)
      have hI : InvC (sA st 0 (upd (st.2.1 0) p1.toNatClampNeg p2)) := inv_sA hI
      have hw : z_wl G (wC ad G st ++ wr) s (wC ad G (sA st 0 (upd (st.2.1 0) p1.toNatClampNeg p2)) ++ wr) H locs := ⟨hP, hD, hS⟩
      refine lv_aload_n hx hb d_S_configure_57 rfl (lv_at hl 1 rfl) ?_
      refine lv_aload_n hx hb d_S_configure_58 rfl (lv_at hl 1 rfl) ?_
      refine va_get (D := G.1) (ci := 2) (v := .int (st.1 9)) (C := R_S) (T := T_S) (N := 14) hx hb hts in_S hown h0.1 hw.1 0 rfl rfl 9 (by decide) (hg (.fieldLink R_S 44 "SecureEntry" "innerToken" "I") (by decide +kernel)) (fun _ h9 => h9) rfl d_S_configure_59 ?_
      refine lv_bipush (v := 14) hx hb d_S_configure_62 (by decide) ?_
      refine z_Vv0 (As := [.int (st.1 9), .int 14]) (ws1 := (wC ad G (f_writeAbout (sA st 0 (upd (st.2.1 0) p1.toNatClampNeg p2)) (st.1 9) 14) ++ wr)) ⟨hx, hb, hml, hown, hts⟩ (c_S_writeAbout l G ad (sA st 0 (upd (st.2.1 0) p1.toNatClampNeg p2)) wr _ (st.1 9) 14 (by first | assumption | exact hI.2.2.2.1 | exact hI.2.2.2.2 | (unfold vp_in; decide) | exact Or.inr (by assumption) | exact cof_mem hI | (intro a h; cases h; assumption) | exact (hI.2.1 _ (by assumption)).1) (by first | assumption | exact hI.2.2.2.1 | exact hI.2.2.2.2 | (unfold vp_in; decide) | exact Or.inr (by assumption) | exact cof_mem hI | (intro a h; cases h; assumption) | exact (hI.2.1 _ (by assumption)).1)) (cwV 2 hts gV_S_114 rfl rfl rfl (by decide +kernel) ⟨Nat.le_of_ble_eq_true rfl, Nat.le_of_ble_eq_true rfl⟩) h0 hw 0 rfl rfl rfl rfl hl.1 rfl (Nat.le_of_ble_eq_true rfl) d_S_configure_64 ⟨Nat.le_of_ble_eq_true rfl, Nat.le_of_ble_eq_true rfl⟩ (fun H locs hw => ?_)
      have hI : InvC (f_writeAbout (sA st 0 (upd (st.2.1 0) p1.toNatClampNeg p2)) (st.1 9) 14) := inv_f_writeAbout hI
      refine lv_iload_n hx hb d_S_configure_67 rfl (lv_at hl 0 rfl) ?_
      exact vx_ret (z_iret (wf := fun u : CS => (wC ad G u ++ wr)) (u := (f_writeAbout (sA st 0 (upd (st.2.1 0) p1.toNatClampNeg p2)) (st.1 9) 14)) hx hb hr hlocks h0 hw rfl (by rw [f_configure, hn_1, exo_none, hn_5, exo_none, hn_10, exo_none, if_neg c_19, if_neg c_32]) (Nat.le_of_ble_eq_true rfl) (Nat.le_of_ble_eq_true rfl) d_S_configure_68)
    · exact z_throw0 (cls := "java/lang/IllegalArgumentException") (ic := 56) hx hb hl9 hown (hg (.classLink R_S 54 "java/lang/IllegalArgumentException") (by decide +kernel)) (hg (.initialized "java/lang/IllegalArgumentException") (by decide +kernel)) (hat_S56 hts h0.2.1) (by decide +kernel) h0 hw (hl.1.trans hml.symm) d_S_configure_35 d_S_configure_38 d_S_configure_39 d_S_configure_42 hex (Nat.le_of_ble_eq_true rfl) (Nat.le_of_ble_eq_true rfl) (Nat.le_of_ble_eq_true rfl) (Nat.le_of_ble_eq_true rfl) hlocks (by rw [f_configure, hn_1, exo_none, hn_5, exo_none, hn_10, exo_none, if_neg c_19, if_pos c_32]) (Nat.le_of_ble_eq_true rfl) (Nat.le_of_ble_eq_true rfl)
set_option maxHeartbeats 4000000 in
set_option maxRecDepth 100000 in
theorem c_S_shutdown (l : Launch) (hl9 : l.stackTraces = false) (G : gG) (ad : Nat → Nat) (st : CS) (wr : va_W) (sz : Nat)  (hI : InvC st) : vx_Met l y_S_shutdown w_S_shutdown { frames := 7, cells := 3, slots := 18, locals := 106 } (va_Pc [.ref (ad 0)] (z_pre G (wC ad G st ++ wr) sz)) (z_Qi G (wC ad G st ++ wr) sz (fun u : CS => (wC ad G u ++ wr)) (fun r u => f_shutdown st = .inr (r, u))) (z_X G (wC ad G st ++ wr) sz (fun E => f_shutdown st = .inl E)) 3 18 (va_A (wC ad G st ++ wr) sz) := by
  refine vx_ofW (cc := b_S_shutdown) (maxL := 1) (ret := (some .int)) (by decide) rfl ?_
  intro p e s m args below meth c s₁ B hml hex hv
  obtain ⟨rfl, hsz, hP, hK, hD0, ham⟩ := hv
  subst hsz
  have hx := B.exec
  have hb := B.bytes
  have hr := B.returns
  have hts : ∀ w ∈ goT, w.before _ s = true := fun w h => atoms_spec (ws := w_S_shutdown) B.pre w (List.mem_cons_of_mem _ h)
  have hg : ∀ w, goB w = true → w.before _ s = true := fun w h => hts w (goI h)
  have hown : s.vm.findClass R_S = some m.cls := findClass_of_methodNamed B.named
  have hlocks := B.notSynchronized
  have h0 : z_st G (wC ad G st ++ wr) s := ⟨hK, ham⟩
  have hw : z_wl G (wC ad G st ++ wr) s (wC ad G st ++ wr) s.heap [] := z_0 hP hD0
  have hl := lv_entry ([.ref (ad 0)]) (n := 1) (Nat.le_of_ble_eq_true rfl)
  rw [lg_entry_eq]
  generalize (lg_sl ([.ref (ad 0)]) ++ List.replicate (1 - (lg_sl ([.ref (ad 0)])).length) Slot.unset).toArray = ls at hl ⊢
  have hl : lv_has ls 1 [(0, .ref (ad 0))] := hl
  refine lv_aload_n hx hb d_S_shutdown_0 rfl (lv_at hl 0 rfl) ?_
  refine z_VXn (As := []) (P := fun E => (f_requireUp st) = some E) (N := (f_requireUp st) = none) ⟨hx, hb, hml, hown, hts⟩ (c_S_requireUp l hl9 G ad st wr _) (cwV 0 hts gV_S_108 rfl rfl rfl (by decide +kernel) ⟨Nat.le_of_ble_eq_true rfl, Nat.le_of_ble_eq_true rfl⟩) h0 hw 0 rfl rfl rfl rfl hl.1 rfl (Nat.le_of_ble_eq_true rfl) d_S_shutdown_1 ⟨Nat.le_of_ble_eq_true rfl, Nat.le_of_ble_eq_true rfl⟩ (fun E ce q9 H locs hE hw hce hcv hcl => z_out hex hlocks h0 hw hce hcv hcl (by rw [f_shutdown, hE, exo_some]) (Nat.le_of_ble_eq_true rfl) (Nat.le_of_ble_eq_true rfl)) (fun H locs hn_1 hw => ?_)
  refine lv_aload_n hx hb d_S_shutdown_4 rfl (lv_at hl 0 rfl) ?_
  refine z_VXn (As := []) (P := fun E => (f_requireAdministrator st) = some E) (N := (f_requireAdministrator st) = none) ⟨hx, hb, hml, hown, hts⟩ (c_S_requireAdministrator l hl9 G ad st wr _) (cwV 0 hts gV_S_155 rfl rfl rfl (by decide +kernel) ⟨Nat.le_of_ble_eq_true rfl, Nat.le_of_ble_eq_true rfl⟩) h0 hw 0 rfl rfl rfl rfl hl.1 rfl (Nat.le_of_ble_eq_true rfl) d_S_shutdown_5 ⟨Nat.le_of_ble_eq_true rfl, Nat.le_of_ble_eq_true rfl⟩ (fun E ce q9 H locs hE hw hce hcv hcl => z_out hex hlocks h0 hw hce hcv hcl (by rw [f_shutdown, hn_1, exo_none, hE, exo_some]) (Nat.le_of_ble_eq_true rfl) (Nat.le_of_ble_eq_true rfl)) (fun H locs hn_5 hw => ?_)
  refine lv_aload_n hx hb d_S_shutdown_8 rfl (lv_at hl 0 rfl) ?_
  refine va_get (D := G.1) (ci := 2) (v := .int (st.1 13)) (C := R_S) (T := T_S) (N := 14) hx hb hts in_S hown h0.1 hw.1 0 rfl rfl 13 (by decide) (hg (.fieldLink R_S 173 "SecureEntry" "doorOpen" "Z") (by decide +kernel)) (fun _ h9 => h9) rfl d_S_shutdown_9 ?_
  refine lv_if_eq (tgt := 23) hx hb d_S_shutdown_12 (by decide) (fun c_12 => ?_) (fun c_12 => ?_)
  · refine lv_aload_n hx hb d_S_shutdown_23 rfl (lv_at hl 0 rfl) ?_
    refine lv_iconst (v := 3) hx hb d_S_shutdown_24 (by decide) ?_
    refine z_VXn (As := [.int 3]) (P := fun E => (f_requireRole st 3) = some E) (N := (f_requireRole st 3) = none) ⟨hx, hb, hml, hown, hts⟩ (c_S_requireRole l hl9 G ad st wr _ 3) (cwV 1 hts gV_S_158 rfl rfl rfl (by decide +kernel) ⟨Nat.le_of_ble_eq_true rfl, Nat.le_of_ble_eq_true rfl⟩) h0 hw 0 rfl rfl rfl rfl hl.1 rfl (Nat.le_of_ble_eq_true rfl) d_S_shutdown_25 ⟨Nat.le_of_ble_eq_true rfl, Nat.le_of_ble_eq_true rfl⟩ (fun E ce q9 H locs hE hw hce hcv hcl => z_out hex hlocks h0 hw hce hcv hcl (by rw [f_shutdown, hn_1, exo_none, hn_5, exo_none, if_pos c_12, hE, exo_some]) (Nat.le_of_ble_eq_true rfl) (Nat.le_of_ble_eq_true rfl)) (fun H locs hn_25 hw => ?_)
    refine lv_aload_n hx hb d_S_shutdown_28 rfl (lv_at hl 0 rfl) ?_
    refine lv_aload_n hx hb d_S_shutdown_29 rfl (lv_at hl 0 rfl) ?_
    refine va_get (D := G.1) (ci := 2) (v := .int (st.1 9)) (C := R_S) (T := T_S) (N := 14) hx hb hts in_S hown h0.1 hw.1 0 rfl rfl 9 (by decide) (hg (.fieldLink R_S 44 "SecureEntry" "innerToken" "I") (by decide +kernel)) (fun _ h9 => h9) rfl d_S_shutdown_30 ?_
    refine lv_bipush (v := 15) hx hb d_S_shutdown_33 (by decide) ?_
    refine z_Vv0 (As := [.int (st.1 9), .int 15]) (ws1 := (wC ad G (f_writeAbout st (st.1 9) 15) ++ wr)) ⟨hx, hb, hml, hown, hts⟩ (c_S_writeAbout l G ad st wr _ (st.1 9) 15 (by first | assumption | exact hI.2.2.2.1 | exact hI.2.2.2.2 | (unfold vp_in; decide) | exact Or.inr (by assumption) | exact cof_mem hI | (intro a h; cases h; assumption) | exact (hI.2.1 _ (by assumption)).1) (by first | assumption | exact hI.2.2.2.1 | exact hI.2.2.2.2 | (unfold vp_in; decide) | exact Or.inr (by assumption) | exact cof_mem hI | (intro a h; cases h; assumption) | exact (hI.2.1 _ (by assumption)).1)) (cwV 2 hts gV_S_114 rfl rfl rfl (by decide +kernel) ⟨Nat.le_of_ble_eq_true rfl, Nat.le_of_ble_eq_true rfl⟩) h0 hw 0 rfl rfl rfl rfl hl.1 rfl (Nat.le_of_ble_eq_true rfl) d_S_shutdown_35 ⟨Nat.le_of_ble_eq_true rfl, Nat.le_of_ble_eq_true rfl⟩ (fun H locs hw => ?_)
    have hI : InvC (f_writeAbout st (st.1 9) 15) := inv_f_writeAbout hI
    refine lv_aload_n hx hb d_S_shutdown_38 rfl (lv_at hl 0 rfl) ?_
    refine lv_iconst (v := 0) hx hb d_S_shutdown_39 (by decide) ?_
    refine va_put (D := G.1) (ci := 2) (v := .int 0) (ty := .boolean) (C := R_S) (T := T_S) (N := 14) hx hb hts in_S ty_S ty_S_ok n_S hown h0.1 hw.1 hw.2.1 hw.2.2 0 rfl rfl 5 (by decide) (hg (.fieldLink R_S 87 "SecureEntry" "up" "Z") (by decide +kernel)) (fun _ h9 => h9) rfl (by decide +kernel) rfl rfl (Nat.le_of_ble_eq_true rfl) d_S_shutdown_40 (fun H locs hP hD hS => ?_)
    have hI : InvC (sS (f_writeAbout st (st.1 9) 15) 5 0) := inv_sS hI (by decide)
    have hw : z_wl G (wC ad G st ++ wr) s (wC ad G (sS (f_writeAbout st (st.1 9) 15) 5 0) ++ wr) H locs := ⟨hP, hD, hS⟩
    refine lv_aload_n hx hb d_S_shutdown_43 rfl (lv_at hl 0 rfl) ?_
    refine lv_aload_n hx hb d_S_shutdown_44 rfl (lv_at hl 0 rfl) ?_
    refine va_get (D := G.1) (ci := 2) (v := .int ((f_writeAbout st (st.1 9) 15).1 4)) (C := R_S) (T := T_S) (N := 14) hx hb hts in_S hown h0.1 hw.1 0 rfl rfl 4 (by decide) (hg (.fieldLink R_S 101 "SecureEntry" "time" "I") (by decide +kernel)) (fun _ h9 => h9) rfl d_S_shutdown_45 ?_
    refine va_put (D := G.1) (ci := 2) (v := .int ((f_writeAbout st (st.1 9) 15).1 4)) (ty := .int) (C := R_S) (T := T_S) (N := 14) hx hb hts in_S ty_S ty_S_ok n_S hown h0.1 hw.1 hw.2.1 hw.2.2 0 rfl rfl 11 (by decide) (hg (.fieldLink R_S 161 "SecureEntry" "unlockedUntil" "I") (by decide +kernel)) (fun _ h9 => h9) rfl (by decide +kernel) rfl rfl (Nat.le_of_ble_eq_true rfl) d_S_shutdown_48 (fun H locs hP hD hS => ?_)
    have hI : InvC (sS (sS (f_writeAbout st (st.1 9) 15) 5 0) 11 ((f_writeAbout st (st.1 9) 15).1 4)) := inv_sS hI (by decide)
    have hw : z_wl G (wC ad G st ++ wr) s (wC ad G (sS (sS (f_writeAbout st (st.1 9) 15) 5 0) 11 ((f_writeAbout st (st.1 9) 15).1 4)) ++ wr) H locs := ⟨hP, hD, hS⟩
    refine lv_aload_n hx hb d_S_shutdown_51 rfl (lv_at hl 0 rfl) ?_
    refine lv_iconst (v := (-1)) hx hb d_S_shutdown_52 (by decide) ?_
    refine va_put (D := G.1) (ci := 2) (v := .int (-1)) (ty := .int) (C := R_S) (T := T_S) (N := 14) hx hb hts in_S ty_S ty_S_ok n_S hown h0.1 hw.1 hw.2.1 hw.2.2 0 rfl rfl 8 (by decide) (hg (.fieldLink R_S 41 "SecureEntry" "outerToken" "I") (by decide +kernel)) (fun _ h9 => h9) rfl (by decide +kernel) rfl rfl (Nat.le_of_ble_eq_true rfl) d_S_shutdown_53 (fun H locs hP hD hS => ?_)
    have hI : InvC (sS (sS (sS (f_writeAbout st (st.1 9) 15) 5 0) 11 ((f_writeAbout st (st.1 9) 15).1 4)) 8 (-1)) := inv_tok8 hI (by exact Or.inl rfl)
    have hw : z_wl G (wC ad G st ++ wr) s (wC ad G (sS (sS (sS (f_writeAbout st (st.1 9) 15) 5 0) 11 ((f_writeAbout st (st.1 9) 15).1 4)) 8 (-1)) ++ wr) H locs := ⟨hP, hD, hS⟩
    refine lv_aload_n hx hb d_S_shutdown_56 rfl (lv_at hl 0 rfl) ?_
    refine lv_iconst (v := (-1)) hx hb d_S_shutdown_57 (by decide) ?_
    refine va_put (D := G.1) (ci := 2) (v := .int (-1)) (ty := .int) (C := R_S) (T := T_S) (N := 14) hx hb hts in_S ty_S ty_S_ok n_S hown h0.1 hw.1 hw.2.1 hw.2.2 0 rfl rfl 9 (by decide) (hg (.fieldLink R_S 44 "SecureEntry" "innerToken" "I") (by decide +kernel)) (fun _ h9 => h9) rfl (by decide +kernel) rfl rfl (Nat.le_of_ble_eq_true rfl) d_S_shutdown_58 (fun H locs hP hD hS => ?_)
    have hI : InvC (sS (sS (sS (sS (f_writeAbout st (st.1 9) 15) 5 0) 11 ((f_writeAbout st (st.1 9) 15).1 4)) 8 (-1)) 9 (-1)) := inv_tok9 hI (by exact Or.inl rfl)
    have hw : z_wl G (wC ad G st ++ wr) s (wC ad G (sS (sS (sS (sS (f_writeAbout st (st.1 9) 15) 5 0) 11 ((f_writeAbout st (st.1 9) 15).1 4)) 8 (-1)) 9 (-1)) ++ wr) H locs := ⟨hP, hD, hS⟩
    refine lv_aload_n hx hb d_S_shutdown_61 rfl (lv_at hl 0 rfl) ?_
    refine lv_iconst (v := 0) hx hb d_S_shutdown_62 (by decide) ?_
    refine z_Vv0 (As := [.int 0]) (ws1 := (wC ad G (f_becomeUserState (sS (sS (sS (sS (f_writeAbout st (st.1 9) 15) 5 0) 11 ((f_writeAbout st (st.1 9) 15).1 4)) 8 (-1)) 9 (-1)) 0) ++ wr)) ⟨hx, hb, hml, hown, hts⟩ (c_S_becomeUserState l G ad (sS (sS (sS (sS (f_writeAbout st (st.1 9) 15) 5 0) 11 ((f_writeAbout st (st.1 9) 15).1 4)) 8 (-1)) 9 (-1)) wr _ 0) (cwV 1 hts gV_S_98 rfl rfl rfl (by decide +kernel) ⟨Nat.le_of_ble_eq_true rfl, Nat.le_of_ble_eq_true rfl⟩) h0 hw 0 rfl rfl rfl rfl hl.1 rfl (Nat.le_of_ble_eq_true rfl) d_S_shutdown_63 ⟨Nat.le_of_ble_eq_true rfl, Nat.le_of_ble_eq_true rfl⟩ (fun H locs hw => ?_)
    have hI : InvC (f_becomeUserState (sS (sS (sS (sS (f_writeAbout st (st.1 9) 15) 5 0) 11 ((f_writeAbout st (st.1 9) 15).1 4)) 8 (-1)) 9 (-1)) 0) := inv_f_becomeUserState hI
    refine lv_aload_n hx hb d_S_shutdown_66 rfl (lv_at hl 0 rfl) ?_
    refine lv_iconst (v := 0) hx hb d_S_shutdown_67 (by decide) ?_
    refine va_put (D := G.1) (ci := 2) (v := .int 0) (ty := .int) (C := R_S) (T := T_S) (N := 14) hx hb hts in_S ty_S ty_S_ok n_S hown h0.1 hw.1 hw.2.1 hw.2.2 0 rfl rfl 10 (by decide) (hg (.fieldLink R_S 47 "SecureEntry" "administratorRole" "I") (by decide +kernel)) (fun _ h9 => h9) rfl (by decide +kernel) rfl rfl (Nat.le_of_ble_eq_true rfl) d_S_shutdown_68 (fun H locs hP hD hS => ?_)
    have hI : InvC (sS (f_becomeUserState (sS (sS (sS (sS (f_writeAbout st (st.1 9) 15) 5 0) 11 ((f_writeAbout st (st.1 9) 15).1 4)) 8 (-1)) 9 (-1)) 0) 10 0) := inv_sS hI (by decide)
    have hw : z_wl G (wC ad G st ++ wr) s (wC ad G (sS (f_becomeUserState (sS (sS (sS (sS (f_writeAbout st (st.1 9) 15) 5 0) 11 ((f_writeAbout st (st.1 9) 15).1 4)) 8 (-1)) 9 (-1)) 0) 10 0) ++ wr) H locs := ⟨hP, hD, hS⟩
    refine lv_iconst (v := 1) hx hb d_S_shutdown_71 (by decide) ?_
    exact vx_ret (z_iret (wf := fun u : CS => (wC ad G u ++ wr)) (u := (sS (f_becomeUserState (sS (sS (sS (sS (f_writeAbout st (st.1 9) 15) 5 0) 11 ((f_writeAbout st (st.1 9) 15).1 4)) 8 (-1)) 9 (-1)) 0) 10 0)) hx hb hr hlocks h0 hw rfl (by rw [f_shutdown, hn_1, exo_none, hn_5, exo_none, if_pos c_12, hn_25, exo_none]) (Nat.le_of_ble_eq_true rfl) (Nat.le_of_ble_eq_true rfl) d_S_shutdown_72)
  · exact z_throw0 (cls := "java/lang/IllegalStateException") (ic := 93) hx hb hl9 hown (hg (.classLink R_S 91 "java/lang/IllegalStateException") (by decide +kernel)) (hg (.initialized "java/lang/IllegalStateException") (by decide +kernel)) (hat_S93 hts h0.2.1) (by decide +kernel) h0 hw (hl.1.trans hml.symm) d_S_shutdown_15 d_S_shutdown_18 d_S_shutdown_19 d_S_shutdown_22 hex (Nat.le_of_ble_eq_true rfl) (Nat.le_of_ble_eq_true rfl) (Nat.le_of_ble_eq_true rfl) (Nat.le_of_ble_eq_true rfl) hlocks (by rw [f_shutdown, hn_1, exo_none, hn_5, exo_none, if_neg c_12]) (Nat.le_of_ble_eq_true rfl) (Nat.le_of_ble_eq_true rfl)
set_option maxHeartbeats 4000000 in
set_option maxRecDepth 100000 in
theorem c_S_door (l : Launch) (G : gG) (ad : Nat → Nat) (st : CS) (wr : va_W) (sz : Nat) (p1 : Int32) (hI : InvC st) (hz : p1 = 0 ∨ p1 = 1) : Met l y_S_door w_S_door { frames := 3, cells := 0, slots := 0, locals := 83 } (va_Pc [.ref (ad 0), .int p1] (z_pre G (wC ad G st ++ wr) sz)) (z_Qi G (wC ad G st ++ wr) sz (fun u : CS => (wC ad G u ++ wr)) (fun r u => f_door st p1 = .inr (r, u))) 0 0 (va_A (wC ad G st ++ wr) sz) := by
  refine Met.ofW (cc := b_S_door) (maxL := 2) (ret := (some .int)) (by decide) rfl ?_
  intro p e s m args below meth c s₁ B hml hv
  obtain ⟨rfl, hsz, hP, hK, hD0, ham⟩ := hv
  subst hsz
  have hx := B.exec
  have hb := B.bytes
  have hr := B.returns
  have hts : ∀ w ∈ goT, w.before _ s = true := fun w h => atoms_spec (ws := w_S_door) B.pre w (List.mem_cons_of_mem _ h)
  have hg : ∀ w, goB w = true → w.before _ s = true := fun w h => hts w (goI h)
  have hown : s.vm.findClass R_S = some m.cls := findClass_of_methodNamed B.named
  have hlocks := B.notSynchronized
  have h0 : z_st G (wC ad G st ++ wr) s := ⟨hK, ham⟩
  have hw : z_wl G (wC ad G st ++ wr) s (wC ad G st ++ wr) s.heap [] := z_0 hP hD0
  have hl := lv_entry ([.ref (ad 0), .int p1]) (n := 2) (Nat.le_of_ble_eq_true rfl)
  rw [lg_entry_eq]
  generalize (lg_sl ([.ref (ad 0), .int p1]) ++ List.replicate (2 - (lg_sl ([.ref (ad 0), .int p1])).length) Slot.unset).toArray = ls at hl ⊢
  have hl : lv_has ls 2 [(0, .ref (ad 0)), (1, .int p1)] := hl
  refine lv_iload_n hx hb d_S_door_0 rfl (lv_at hl 1 rfl) ?_
  refine lv_aload_n hx hb d_S_door_1 rfl (lv_at hl 0 rfl) ?_
  refine va_get (D := G.1) (ci := 2) (v := .int (st.1 13)) (C := R_S) (T := T_S) (N := 14) hx hb hts in_S hown h0.1 hw.1 0 rfl rfl 13 (by decide) (hg (.fieldLink R_S 173 "SecureEntry" "doorOpen" "Z") (by decide +kernel)) (fun _ h9 => h9) rfl d_S_door_2 ?_
  refine lv_icmp_ne (tgt := 10) hx hb d_S_door_5 (by decide) (fun c_5 => ?_) (fun c_5 => ?_)
  · refine lv_aload_n hx hb d_S_door_10 rfl (lv_at hl 0 rfl) ?_
    refine lv_iload_n hx hb d_S_door_11 rfl (lv_at hl 1 rfl) ?_
    refine va_put (D := G.1) (ci := 2) (v := .int p1) (ty := .boolean) (C := R_S) (T := T_S) (N := 14) hx hb hts in_S ty_S ty_S_ok n_S hown h0.1 hw.1 hw.2.1 hw.2.2 0 rfl rfl 13 (by decide) (hg (.fieldLink R_S 173 "SecureEntry" "doorOpen" "Z") (by decide +kernel)) (fun _ h9 => h9) rfl (by decide +kernel) (z_nb hz) (z_fb hz) (Nat.le_of_ble_eq_true rfl) d_S_door_12 (fun H locs hP hD hS => ?_)
    have hI : InvC (sS st 13 p1) := inv_sS hI (by decide)
    have hw : z_wl G (wC ad G st ++ wr) s (wC ad G (sS st 13 p1) ++ wr) H locs := ⟨hP, hD, hS⟩
    refine lv_iload_n hx hb d_S_door_15 rfl (lv_at hl 1 rfl) ?_
    refine lv_if_eq (tgt := 55) hx hb d_S_door_16 (by decide) (fun c_16 => ?_) (fun c_16 => ?_)
    · refine lv_iconst (v := 1) hx hb d_S_door_55 (by decide) ?_
      exact z_iret (wf := fun u : CS => (wC ad G u ++ wr)) (u := (sS st 13 p1)) hx hb hr hlocks h0 hw rfl (by rw [f_door, if_neg c_5, if_pos c_16]) (Nat.le_of_ble_eq_true rfl) (Nat.le_of_ble_eq_true rfl) d_S_door_56
    · refine lv_aload_n hx hb d_S_door_19 rfl (lv_at hl 0 rfl) ?_
      refine z_Vi0 (As := []) (v := (f_isUnlocked (sS st 13 p1))) ⟨hx, hb, hml, hown, hts⟩ (c_S_isUnlocked l G ad (sS st 13 p1) wr _) (cwV 0 hts gV_S_176 rfl rfl rfl (by decide +kernel) ⟨Nat.le_of_ble_eq_true rfl, Nat.le_of_ble_eq_true rfl⟩) h0 hw 0 rfl rfl rfl rfl hl.1 rfl (Nat.le_of_ble_eq_true rfl) d_S_door_20 ⟨Nat.le_of_ble_eq_true rfl, Nat.le_of_ble_eq_true rfl⟩ (fun H locs hw => ?_)
      refine lv_if_ne (tgt := 55) hx hb d_S_door_23 (by decide) (fun c_23 => ?_) (fun c_23 => ?_)
      · refine lv_iconst (v := 1) hx hb d_S_door_55 (by decide) ?_
        exact z_iret (wf := fun u : CS => (wC ad G u ++ wr)) (u := (sS st 13 p1)) hx hb hr hlocks h0 hw rfl (by rw [f_door, if_neg c_5, if_neg c_16, if_neg c_23]) (Nat.le_of_ble_eq_true rfl) (Nat.le_of_ble_eq_true rfl) d_S_door_56
      · refine lv_aload_n hx hb d_S_door_26 rfl (lv_at hl 0 rfl) ?_
        refine va_get (D := G.1) (ci := 2) (v := .ref (ad 4)) (C := R_S) (T := T_S) (N := 14) hx hb hts in_S hown h0.1 hw.1 0 rfl rfl 3 (by decide) (hg (.fieldLink R_S 33 "SecureEntry" "log" "LSecureEntry$Log;") (by decide +kernel)) (fun _ h9 => h9) rfl d_S_door_27 ?_
        refine lv_bipush (v := 9) hx hb d_S_door_30 (by decide) ?_
        refine lv_aload_n hx hb d_S_door_32 rfl (lv_at hl 0 rfl) ?_
        refine va_get (D := G.1) (ci := 2) (v := .int (st.1 4)) (C := R_S) (T := T_S) (N := 14) hx hb hts in_S hown h0.1 hw.1 0 rfl rfl 4 (by decide) (hg (.fieldLink R_S 101 "SecureEntry" "time" "I") (by decide +kernel)) (fun _ h9 => h9) rfl d_S_door_33 ?_
        refine lv_iconst (v := (-1)) hx hb d_S_door_36 (by decide) ?_
        refine z_Vv0 (As := [.int 9, .int (st.1 4), .int (-1)]) (ws1 := (wC ad G (f_write (sS st 13 p1) 9 (st.1 4) (-1)) ++ wr)) ⟨hx, hb, hml, hown, hts⟩ (c_O_write l G ad (sS st 13 p1) wr _ 9 (st.1 4) (-1) (by first | assumption | exact hI.2.2.2.1 | exact hI.2.2.2.2 | (unfold vp_in; decide) | exact Or.inr (by assumption) | exact cof_mem hI | (intro a h; cases h; assumption) | exact (hI.2.1 _ (by assumption)).1)) (cwV 3 hts gV_S_104 rfl rfl rfl (by decide +kernel) ⟨Nat.le_of_ble_eq_true rfl, Nat.le_of_ble_eq_true rfl⟩) h0 hw 4 rfl rfl rfl rfl hl.1 rfl (Nat.le_of_ble_eq_true rfl) d_S_door_37 ⟨Nat.le_of_ble_eq_true rfl, Nat.le_of_ble_eq_true rfl⟩ (fun H locs hw => ?_)
        have hI : InvC (f_write (sS st 13 p1) 9 (st.1 4) (-1)) := inv_f_write hI
        refine lv_aload_n hx hb d_S_door_40 rfl (lv_at hl 0 rfl) ?_
        refine lv_aload_n hx hb d_S_door_41 rfl (lv_at hl 0 rfl) ?_
        refine va_get (D := G.1) (ci := 2) (v := .int ((f_write (sS st 13 p1) 9 (st.1 4) (-1)).1 4)) (C := R_S) (T := T_S) (N := 14) hx hb hts in_S hown h0.1 hw.1 0 rfl rfl 4 (by decide) (hg (.fieldLink R_S 101 "SecureEntry" "time" "I") (by decide +kernel)) (fun _ h9 => h9) rfl d_S_door_42 ?_
        refine lv_aload_n hx hb d_S_door_45 rfl (lv_at hl 0 rfl) ?_
        refine va_get (D := G.1) (ci := 2) (v := .ref (ad 1)) (C := R_S) (T := T_S) (N := 14) hx hb hts in_S hown h0.1 hw.1 0 rfl rfl 0 (by decide) (hg (.fieldLink R_S 18 "SecureEntry" "configuration" "[I") (by decide +kernel)) (fun _ h9 => h9) rfl d_S_door_46 ?_
        refine lv_iconst (v := 1) hx hb d_S_door_49 (by decide) ?_
        refine va_iald hx hb h0.1 hw.1 1 0 rfl rfl (show vp_in 1 6 by unfold vp_in; decide) d_S_door_50 ?_
        refine lv_iadd hx hb d_S_door_51 ?_
        refine va_put (D := G.1) (ci := 2) (v := .int (((f_write (sS st 13 p1) 9 (st.1 4) (-1)).1 4) + (((f_write (sS st 13 p1) 9 (st.1 4) (-1)).2.1 0) (1 : Int32).toNatClampNeg))) (ty := .int) (C := R_S) (T := T_S) (N := 14) hx hb hts in_S ty_S ty_S_ok n_S hown h0.1 hw.1 hw.2.1 hw.2.2 0 rfl rfl 12 (by decide) (hg (.fieldLink R_S 180 "SecureEntry" "alarmTime" "I") (by decide +kernel)) (fun _ h9 => h9) rfl (by decide +kernel) rfl rfl (Nat.le_of_ble_eq_true rfl) d_S_door_52 (fun H locs hP hD hS => ?_)
        have hI : InvC (sS (f_write (sS st 13 p1) 9 (st.1 4) (-1)) 12 (((f_write (sS st 13 p1) 9 (st.1 4) (-1)).1 4) + (((f_write (sS st 13 p1) 9 (st.1 4) (-1)).2.1 0) (1 : Int32).toNatClampNeg))) := inv_sS hI (by decide)
        have hw : z_wl G (wC ad G st ++ wr) s (wC ad G (sS (f_write (sS st 13 p1) 9 (st.1 4) (-1)) 12 (((f_write (sS st 13 p1) 9 (st.1 4) (-1)).1 4) + (((f_write (sS st 13 p1) 9 (st.1 4) (-1)).2.1 0) (1 : Int32).toNatClampNeg))) ++ wr) H locs := ⟨hP, hD, hS⟩
        refine lv_iconst (v := 1) hx hb d_S_door_55 (by decide) ?_
        exact z_iret (wf := fun u : CS => (wC ad G u ++ wr)) (u := (sS (f_write (sS st 13 p1) 9 (st.1 4) (-1)) 12 (((f_write (sS st 13 p1) 9 (st.1 4) (-1)).1 4) + (((f_write (sS st 13 p1) 9 (st.1 4) (-1)).2.1 0) (1 : Int32).toNatClampNeg)))) hx hb hr hlocks h0 hw rfl (by rw [f_door, if_neg c_5, if_neg c_16, if_pos c_23]) (Nat.le_of_ble_eq_true rfl) (Nat.le_of_ble_eq_true rfl) d_S_door_56
  · refine lv_iconst (v := 0) hx hb d_S_door_8 (by decide) ?_
    exact z_iret (wf := fun u : CS => (wC ad G u ++ wr)) (u := st) hx hb hr hlocks h0 hw rfl (by rw [f_door, if_pos c_5]) (Nat.le_of_ble_eq_true rfl) (Nat.le_of_ble_eq_true rfl) d_S_door_9
set_option maxHeartbeats 4000000 in
set_option maxRecDepth 100000 in
theorem c_S_entry (l : Launch) (hl9 : l.stackTraces = false) (G : gG) (ad : Nat → Nat) (st : CS) (wr : va_W) (sz : Nat) (p1 : Int32) (p2 : Int32) (hI : InvC st) : vx_Met l y_S_entry w_S_entry { frames := 6, cells := 1, slots := 6, locals := 81 } (va_Pc [.ref (ad 0), .int p1, .int p2] (z_pre G (wC ad G st ++ wr) sz)) (z_Qi G (wC ad G st ++ wr) sz (fun u : CS => (wC ad G u ++ wr)) (fun r u => f_entry st p1 p2 = .inr (r, u))) (z_X G (wC ad G st ++ wr) sz (fun E => f_entry st p1 p2 = .inl E)) 1 6 (va_A (wC ad G st ++ wr) sz) := by
  refine vx_ofW (cc := b_S_entry) (maxL := 3) (ret := (some .int)) (by decide) rfl ?_
  intro p e s m args below meth c s₁ B hml hex hv
  obtain ⟨rfl, hsz, hP, hK, hD0, ham⟩ := hv
  subst hsz
  have hx := B.exec
  have hb := B.bytes
  have hr := B.returns
  have hts : ∀ w ∈ goT, w.before _ s = true := fun w h => atoms_spec (ws := w_S_entry) B.pre w (List.mem_cons_of_mem _ h)
  have hg : ∀ w, goB w = true → w.before _ s = true := fun w h => hts w (goI h)
  have hown : s.vm.findClass R_S = some m.cls := findClass_of_methodNamed B.named
  have hlocks := B.notSynchronized
  have h0 : z_st G (wC ad G st ++ wr) s := ⟨hK, ham⟩
  have hw : z_wl G (wC ad G st ++ wr) s (wC ad G st ++ wr) s.heap [] := z_0 hP hD0
  have hl := lv_entry ([.ref (ad 0), .int p1, .int p2]) (n := 3) (Nat.le_of_ble_eq_true rfl)
  rw [lg_entry_eq]
  generalize (lg_sl ([.ref (ad 0), .int p1, .int p2]) ++ List.replicate (3 - (lg_sl ([.ref (ad 0), .int p1, .int p2])).length) Slot.unset).toArray = ls at hl ⊢
  have hl : lv_has ls 3 [(0, .ref (ad 0)), (1, .int p1), (2, .int p2)] := hl
  refine lv_iload_n hx hb d_S_entry_0 rfl (lv_at hl 1 rfl) ?_
  refine lv_iconst (v := 0) hx hb d_S_entry_1 (by decide) ?_
  refine lv_aload_n hx hb d_S_entry_2 rfl (lv_at hl 0 rfl) ?_
  refine va_get (D := G.1) (ci := 2) (v := .ref (ad 4)) (C := R_S) (T := T_S) (N := 14) hx hb hts in_S hown h0.1 hw.1 0 rfl rfl 3 (by decide) (hg (.fieldLink R_S 33 "SecureEntry" "log" "LSecureEntry$Log;") (by decide +kernel)) (fun _ h9 => h9) rfl d_S_entry_3 ?_
  refine va_get (D := G.1) (ci := 1) (v := .int (st.1 14)) (C := R_O) (T := T_O) (N := 5) hx hb hts in_O hown h0.1 hw.1 4 rfl rfl 3 (by decide) (hg (.fieldLink R_S 164 "SecureEntry$Log" "size" "I") (by decide +kernel)) (fun _ h9 => h9) rfl d_S_entry_6 ?_
  refine lv_iconst (v := 1) hx hb d_S_entry_9 (by decide) ?_
  refine lv_isub hx hb d_S_entry_10 ?_
  refine z_Si0 (As := [.int p1, .int 0, .int ((st.1 14) - 1)]) (v := (f_isWithin p1 0 ((st.1 14) - 1))) ⟨hx, hb, hml, hown, hts⟩ (c_S_isWithin l G (wC ad G st ++ wr) _ p1 0 ((st.1 14) - 1)) (cwS 3 hts gS_S_69 rfl rfl rfl (by decide +kernel) ⟨Nat.le_of_ble_eq_true rfl, Nat.le_of_ble_eq_true rfl⟩) h0 hw rfl hl.1 rfl (Nat.le_of_ble_eq_true rfl) d_S_entry_11 ⟨Nat.le_of_ble_eq_true rfl, Nat.le_of_ble_eq_true rfl⟩ (fun H locs hw => ?_)
  refine lv_if_ne (tgt := 25) hx hb d_S_entry_14 (by decide) (fun c_14 => ?_) (fun c_14 => ?_)
  · have hp1 : vp_in p1 16 := ent_in hI c_14
    refine lv_iload_n hx hb d_S_entry_25 rfl (lv_at hl 2 rfl) ?_
    rcases Classical.em (p2 = 0) with c_26_0 | c_26_0
    · refine lv_tableIn (tgt := 52) hx hb d_S_entry_26 (by rw [c_26_0]; decide) (by rw [c_26_0]; decide) (by rw [c_26_0]; rfl) (by decide) ?_
      refine lv_aload_n hx hb d_S_entry_52 rfl (lv_at hl 0 rfl) ?_
      refine va_get (D := G.1) (ci := 2) (v := .ref (ad 4)) (C := R_S) (T := T_S) (N := 14) hx hb hts in_S hown h0.1 hw.1 0 rfl rfl 3 (by decide) (hg (.fieldLink R_S 33 "SecureEntry" "log" "LSecureEntry$Log;") (by decide +kernel)) (fun _ h9 => h9) rfl d_S_entry_53 ?_
      refine va_get (D := G.1) (ci := 1) (v := .ref (ad 5)) (C := R_O) (T := T_O) (N := 5) hx hb hts in_O hown h0.1 hw.1 4 rfl rfl 0 (by decide) (hg (.fieldLink R_S 193 "SecureEntry$Log" "kinds" "[I") (by decide +kernel)) (fun _ h9 => h9) rfl d_S_entry_56 ?_
      refine lv_iload_n hx hb d_S_entry_59 rfl (lv_at hl 1 rfl) ?_
      refine va_iald hx hb h0.1 hw.1 5 0 rfl rfl (show vp_in p1 16 by assumption) d_S_entry_60 ?_
      exact vx_ret (z_iret (wf := fun u : CS => (wC ad G u ++ wr)) (u := st) hx hb hr hlocks h0 hw rfl (by rw [f_entry, if_neg c_14, if_pos c_26_0]) (Nat.le_of_ble_eq_true rfl) (Nat.le_of_ble_eq_true rfl) d_S_entry_61)
    · skip
      rcases Classical.em (p2 = 1) with c_26_1 | c_26_1
      · refine lv_tableIn (tgt := 62) hx hb d_S_entry_26 (by rw [c_26_1]; decide) (by rw [c_26_1]; decide) (by rw [c_26_1]; rfl) (by decide) ?_
        refine lv_aload_n hx hb d_S_entry_62 rfl (lv_at hl 0 rfl) ?_
        refine va_get (D := G.1) (ci := 2) (v := .ref (ad 4)) (C := R_S) (T := T_S) (N := 14) hx hb hts in_S hown h0.1 hw.1 0 rfl rfl 3 (by decide) (hg (.fieldLink R_S 33 "SecureEntry" "log" "LSecureEntry$Log;") (by decide +kernel)) (fun _ h9 => h9) rfl d_S_entry_63 ?_
        refine va_get (D := G.1) (ci := 1) (v := .ref (ad 6)) (C := R_O) (T := T_O) (N := 5) hx hb hts in_O hown h0.1 hw.1 4 rfl rfl 1 (by decide) (hg (.fieldLink R_S 196 "SecureEntry$Log" "times" "[I") (by decide +kernel)) (fun _ h9 => h9) rfl d_S_entry_66 ?_
        refine lv_iload_n hx hb d_S_entry_69 rfl (lv_at hl 1 rfl) ?_
        refine va_iald hx hb h0.1 hw.1 6 0 rfl rfl (show vp_in p1 16 by assumption) d_S_entry_70 ?_
        exact vx_ret (z_iret (wf := fun u : CS => (wC ad G u ++ wr)) (u := st) hx hb hr hlocks h0 hw rfl (by rw [f_entry, if_neg c_14, if_neg c_26_0, if_pos c_26_1]) (Nat.le_of_ble_eq_true rfl) (Nat.le_of_ble_eq_true rfl) d_S_entry_71)
      · skip
        rcases Classical.em (p2 = 2) with c_26_2 | c_26_2
        · refine lv_tableIn (tgt := 72) hx hb d_S_entry_26 (by rw [c_26_2]; decide) (by rw [c_26_2]; decide) (by rw [c_26_2]; rfl) (by decide) ?_
          refine lv_aload_n hx hb d_S_entry_72 rfl (lv_at hl 0 rfl) ?_
          refine va_get (D := G.1) (ci := 2) (v := .ref (ad 4)) (C := R_S) (T := T_S) (N := 14) hx hb hts in_S hown h0.1 hw.1 0 rfl rfl 3 (by decide) (hg (.fieldLink R_S 33 "SecureEntry" "log" "LSecureEntry$Log;") (by decide +kernel)) (fun _ h9 => h9) rfl d_S_entry_73 ?_
          refine va_get (D := G.1) (ci := 1) (v := .ref (ad 7)) (C := R_O) (T := T_O) (N := 5) hx hb hts in_O hown h0.1 hw.1 4 rfl rfl 2 (by decide) (hg (.fieldLink R_S 199 "SecureEntry$Log" "holders" "[I") (by decide +kernel)) (fun _ h9 => h9) rfl d_S_entry_76 ?_
          refine lv_iload_n hx hb d_S_entry_79 rfl (lv_at hl 1 rfl) ?_
          refine va_iald hx hb h0.1 hw.1 7 0 rfl rfl (show vp_in p1 16 by assumption) d_S_entry_80 ?_
          exact vx_ret (z_iret (wf := fun u : CS => (wC ad G u ++ wr)) (u := st) hx hb hr hlocks h0 hw rfl (by rw [f_entry, if_neg c_14, if_neg c_26_0, if_neg c_26_1, if_pos c_26_2]) (Nat.le_of_ble_eq_true rfl) (Nat.le_of_ble_eq_true rfl) d_S_entry_81)
        · refine lv_tableOut (tgt := 82) hx hb d_S_entry_26 (z_tout3 c_26_0 c_26_1 c_26_2) (by decide) ?_
          exact z_throw0 (cls := "java/lang/IllegalArgumentException") (ic := 56) hx hb hl9 hown (hg (.classLink R_S 54 "java/lang/IllegalArgumentException") (by decide +kernel)) (hg (.initialized "java/lang/IllegalArgumentException") (by decide +kernel)) (hat_S56 hts h0.2.1) (by decide +kernel) h0 hw (hl.1.trans hml.symm) d_S_entry_82 d_S_entry_85 d_S_entry_86 d_S_entry_89 hex (Nat.le_of_ble_eq_true rfl) (Nat.le_of_ble_eq_true rfl) (Nat.le_of_ble_eq_true rfl) (Nat.le_of_ble_eq_true rfl) hlocks (by rw [f_entry, if_neg c_14, if_neg c_26_0, if_neg c_26_1, if_neg c_26_2]) (Nat.le_of_ble_eq_true rfl) (Nat.le_of_ble_eq_true rfl)
  · exact z_throw0 (cls := "java/util/NoSuchElementException") (ic := 192) hx hb hl9 hown (hg (.classLink R_S 190 "java/util/NoSuchElementException") (by decide +kernel)) (hg (.initialized "java/util/NoSuchElementException") (by decide +kernel)) (hat_S192 hts h0.2.1) (by decide +kernel) h0 hw (hl.1.trans hml.symm) d_S_entry_17 d_S_entry_20 d_S_entry_21 d_S_entry_24 hex (Nat.le_of_ble_eq_true rfl) (Nat.le_of_ble_eq_true rfl) (Nat.le_of_ble_eq_true rfl) (Nat.le_of_ble_eq_true rfl) hlocks (by rw [f_entry, if_pos c_14]) (Nat.le_of_ble_eq_true rfl) (Nat.le_of_ble_eq_true rfl)
set_option maxHeartbeats 4000000 in
set_option maxRecDepth 100000 in
theorem c_S_certificate (l : Launch) (hl9 : l.stackTraces = false) (G : gG) (ad : Nat → Nat) (st : CS) (wr : va_W) (sz : Nat) (p1 : Int32) (p2 : Int32) (p3 : Int32) (hI : InvC st) : vx_Met l y_S_certificate w_S_certificate { frames := 7, cells := 2, slots := 12, locals := 101 } (va_Pc [.ref (ad 0), .int p1, .int p2, .int p3] (z_pre G (wC ad G st ++ wr) sz)) (z_Qi G (wC ad G st ++ wr) sz (fun u : CS => (wC ad G u ++ wr)) (fun r u => f_certificate st p1 p2 p3 = .inr (r, u))) (z_X G (wC ad G st ++ wr) sz (fun E => f_certificate st p1 p2 p3 = .inl E)) 2 12 (va_A (wC ad G st ++ wr) sz) := by
  refine vx_ofW (cc := b_S_certificate) (maxL := 5) (ret := (some .int)) (by decide) rfl ?_
  intro p e s m args below meth c s₁ B hml hex hv
  obtain ⟨rfl, hsz, hP, hK, hD0, ham⟩ := hv
  subst hsz
  have hx := B.exec
  have hb := B.bytes
  have hr := B.returns
  have hts : ∀ w ∈ goT, w.before _ s = true := fun w h => atoms_spec (ws := w_S_certificate) B.pre w (List.mem_cons_of_mem _ h)
  have hg : ∀ w, goB w = true → w.before _ s = true := fun w h => hts w (goI h)
  have hown : s.vm.findClass R_S = some m.cls := findClass_of_methodNamed B.named
  have hlocks := B.notSynchronized
  have h0 : z_st G (wC ad G st ++ wr) s := ⟨hK, ham⟩
  have hw : z_wl G (wC ad G st ++ wr) s (wC ad G st ++ wr) s.heap [] := z_0 hP hD0
  have hl := lv_entry ([.ref (ad 0), .int p1, .int p2, .int p3]) (n := 5) (Nat.le_of_ble_eq_true rfl)
  rw [lg_entry_eq]
  generalize (lg_sl ([.ref (ad 0), .int p1, .int p2, .int p3]) ++ List.replicate (5 - (lg_sl ([.ref (ad 0), .int p1, .int p2, .int p3])).length) Slot.unset).toArray = ls at hl ⊢
  have hl : lv_has ls 5 [(0, .ref (ad 0)), (1, .int p1), (2, .int p2), (3, .int p3)] := hl
  refine lv_iload_n hx hb d_S_certificate_0 rfl (lv_at hl 1 rfl) ?_
  refine z_SXn (As := [.int p1]) (P := fun E => (f_requireToken p1) = some E) (N := (f_requireToken p1) = none) ⟨hx, hb, hml, hown, hts⟩ (c_S_requireToken l hl9 G (wC ad G st ++ wr) _ p1) (cwS 1 hts gS_S_65 rfl rfl rfl (by decide +kernel) ⟨Nat.le_of_ble_eq_true rfl, Nat.le_of_ble_eq_true rfl⟩) h0 hw rfl hl.1 rfl (Nat.le_of_ble_eq_true rfl) d_S_certificate_1 ⟨Nat.le_of_ble_eq_true rfl, Nat.le_of_ble_eq_true rfl⟩ (fun E ce q9 H locs hE hw hce hcv hcl => z_out hex hlocks h0 hw hce hcv hcl (by rw [f_certificate, hE, exo_some]) (Nat.le_of_ble_eq_true rfl) (Nat.le_of_ble_eq_true rfl)) (fun H locs hn_1 hw => ?_)
  have hp1 : vp_in p1 6 := rtk_in hn_1
  refine lv_iload_n hx hb d_S_certificate_4 rfl (lv_at hl 2 rfl) ?_
  refine lv_iconst (v := 0) hx hb d_S_certificate_5 (by decide) ?_
  refine lv_iconst (v := 3) hx hb d_S_certificate_6 (by decide) ?_
  refine z_Si0 (As := [.int p2, .int 0, .int 3]) (v := (f_isWithin p2 0 3)) ⟨hx, hb, hml, hown, hts⟩ (c_S_isWithin l G (wC ad G st ++ wr) _ p2 0 3) (cwS 3 hts gS_S_69 rfl rfl rfl (by decide +kernel) ⟨Nat.le_of_ble_eq_true rfl, Nat.le_of_ble_eq_true rfl⟩) h0 hw rfl hl.1 rfl (Nat.le_of_ble_eq_true rfl) d_S_certificate_7 ⟨Nat.le_of_ble_eq_true rfl, Nat.le_of_ble_eq_true rfl⟩ (fun H locs hw => ?_)
  refine lv_if_eq (tgt := 23) hx hb d_S_certificate_10 (by decide) (fun c_10 => ?_) (fun c_10 => ?_)
  · exact z_throw0 (cls := "java/lang/IllegalArgumentException") (ic := 56) hx hb hl9 hown (hg (.classLink R_S 54 "java/lang/IllegalArgumentException") (by decide +kernel)) (hg (.initialized "java/lang/IllegalArgumentException") (by decide +kernel)) (hat_S56 hts h0.2.1) (by decide +kernel) h0 hw (hl.1.trans hml.symm) d_S_certificate_23 d_S_certificate_26 d_S_certificate_27 d_S_certificate_30 hex (Nat.le_of_ble_eq_true rfl) (Nat.le_of_ble_eq_true rfl) (Nat.le_of_ble_eq_true rfl) (Nat.le_of_ble_eq_true rfl) hlocks (by rw [f_certificate, hn_1, exo_none, if_pos c_10]) (Nat.le_of_ble_eq_true rfl) (Nat.le_of_ble_eq_true rfl)
  · have hp2 : vp_in p2 4 := win_in c_10 (by decide)
    refine lv_iload_n hx hb d_S_certificate_13 rfl (lv_at hl 3 rfl) ?_
    refine lv_iconst (v := 0) hx hb d_S_certificate_14 (by decide) ?_
    refine lv_bipush (v := 6) hx hb d_S_certificate_15 (by decide) ?_
    refine z_Si0 (As := [.int p3, .int 0, .int 6]) (v := (f_isWithin p3 0 6)) ⟨hx, hb, hml, hown, hts⟩ (c_S_isWithin l G (wC ad G st ++ wr) _ p3 0 6) (cwS 3 hts gS_S_69 rfl rfl rfl (by decide +kernel) ⟨Nat.le_of_ble_eq_true rfl, Nat.le_of_ble_eq_true rfl⟩) h0 hw rfl hl.1 rfl (Nat.le_of_ble_eq_true rfl) d_S_certificate_17 ⟨Nat.le_of_ble_eq_true rfl, Nat.le_of_ble_eq_true rfl⟩ (fun H locs hw => ?_)
    refine lv_if_ne (tgt := 31) hx hb d_S_certificate_20 (by decide) (fun c_20 => ?_) (fun c_20 => ?_)
    · refine lv_aload_n hx hb d_S_certificate_31 rfl (lv_at hl 0 rfl) ?_
      refine lv_iload_n hx hb d_S_certificate_32 rfl (lv_at hl 1 rfl) ?_
      refine lv_iload_n hx hb d_S_certificate_33 rfl (lv_at hl 2 rfl) ?_
      refine z_Vq0 (As := [.int p1, .int p2]) (v := (f_certificateOf st p1 p2)) ⟨hx, hb, hml, hown, hts⟩ (c_S_certificateOf l G ad st wr _ p1 p2 (by first | assumption | exact hI.2.2.2.1 | exact hI.2.2.2.2 | (unfold vp_in; decide) | exact Or.inr (by assumption) | exact cof_mem hI | (intro a h; cases h; assumption) | exact (hI.2.1 _ (by assumption)).1) (by first | assumption | exact hI.2.2.2.1 | exact hI.2.2.2.2 | (unfold vp_in; decide) | exact Or.inr (by assumption) | exact cof_mem hI | (intro a h; cases h; assumption) | exact (hI.2.1 _ (by assumption)).1)) (cwV 2 hts gV_S_76 rfl rfl rfl (by decide +kernel) ⟨Nat.le_of_ble_eq_true rfl, Nat.le_of_ble_eq_true rfl⟩) h0 hw 0 rfl rfl rfl rfl hl.1 rfl (Nat.le_of_ble_eq_true rfl) d_S_certificate_34 ⟨Nat.le_of_ble_eq_true rfl, Nat.le_of_ble_eq_true rfl⟩ (fun H locs hw => ?_)
      refine z_astore (r := (f_certificateOf st p1 p2)) (lv' := [(4, va_rf (f_certificateOf st p1 p2)), (0, .ref (ad 0)), (1, .int p1), (2, .int p2), (3, .int p3)]) hx hb d_S_certificate_37 hl (by decide) rfl (fun ls hl => ?_)
      refine z_aload (r := (f_certificateOf st p1 p2)) hx hb d_S_certificate_39 (lv_at hl 0 rfl) ?_
      refine z_ifnonnull (r := (f_certificateOf st p1 p2)) (tgt := 52) hx hb d_S_certificate_41 (by decide) (fun e_41 => ?_) (fun a_41 e_41 => ?_)
      · have hl : lv_has ls 5 [(4, .null), (0, .ref (ad 0)), (1, .int p1), (2, .int p2), (3, .int p3)] := by rw [e_41] at hl; exact hl
        exact z_throw0 (cls := "java/util/NoSuchElementException") (ic := 192) hx hb hl9 hown (hg (.classLink R_S 190 "java/util/NoSuchElementException") (by decide +kernel)) (hg (.initialized "java/util/NoSuchElementException") (by decide +kernel)) (hat_S192 hts h0.2.1) (by decide +kernel) h0 hw (hl.1.trans hml.symm) d_S_certificate_44 d_S_certificate_47 d_S_certificate_48 d_S_certificate_51 hex (Nat.le_of_ble_eq_true rfl) (Nat.le_of_ble_eq_true rfl) (Nat.le_of_ble_eq_true rfl) (Nat.le_of_ble_eq_true rfl) hlocks (by rw [f_certificate, hn_1, exo_none, if_neg c_10, if_neg c_20, e_41, oel_none]) (Nat.le_of_ble_eq_true rfl) (Nat.le_of_ble_eq_true rfl)
      · have hl : lv_has ls 5 [(4, .ref a_41), (0, .ref (ad 0)), (1, .int p1), (2, .int p2), (3, .int p3)] := by rw [e_41] at hl; exact hl
        have hm_a_41 : a_41 ∈ st.2.2.2.1 := cof_mem hI _ e_41
        refine lv_iload_n hx hb d_S_certificate_52 rfl (lv_at hl 4 rfl) ?_
        rcases Classical.em (p3 = 0) with c_53_0 | c_53_0
        · refine lv_tableIn (tgt := 92) hx hb d_S_certificate_53 (by rw [c_53_0]; decide) (by rw [c_53_0]; decide) (by rw [c_53_0]; rfl) (by decide) ?_
          refine lv_aload hx hb d_S_certificate_92 (lv_at hl 0 rfl) ?_
          obtain ⟨k_94, hk_94⟩ := z_pool (ad := ad) (G := G) (wr := wr) (st := st) hm_a_41
          refine va_get (D := G.1) (ci := 0) (v := .int (st.2.2.2.2 a_41 1)) (C := R_C) (T := T_C) (N := 7) hx hb hts in_C hown h0.1 hw.1 k_94 hk_94 rfl 1 (by decide) (hg (.fieldLink R_S 202 "SecureEntry$Certificate" "issuer" "I") (by decide +kernel)) (fun _ h9 => h9) rfl d_S_certificate_94 ?_
          exact vx_ret (z_iret (wf := fun u : CS => (wC ad G u ++ wr)) (u := st) hx hb hr hlocks h0 hw rfl (by rw [f_certificate, hn_1, exo_none, if_neg c_10, if_neg c_20, e_41, oel_some, if_pos c_53_0]) (Nat.le_of_ble_eq_true rfl) (Nat.le_of_ble_eq_true rfl) d_S_certificate_97)
        · skip
          rcases Classical.em (p3 = 1) with c_53_1 | c_53_1
          · refine lv_tableIn (tgt := 98) hx hb d_S_certificate_53 (by rw [c_53_1]; decide) (by rw [c_53_1]; decide) (by rw [c_53_1]; rfl) (by decide) ?_
            refine lv_aload hx hb d_S_certificate_98 (lv_at hl 0 rfl) ?_
            obtain ⟨k_100, hk_100⟩ := z_pool (ad := ad) (G := G) (wr := wr) (st := st) hm_a_41
            refine va_get (D := G.1) (ci := 0) (v := .int (st.2.2.2.2 a_41 2)) (C := R_C) (T := T_C) (N := 7) hx hb hts in_C hown h0.1 hw.1 k_100 hk_100 rfl 2 (by decide) (hg (.fieldLink R_S 205 "SecureEntry$Certificate" "holder" "I") (by decide +kernel)) (fun _ h9 => h9) rfl d_S_certificate_100 ?_
            exact vx_ret (z_iret (wf := fun u : CS => (wC ad G u ++ wr)) (u := st) hx hb hr hlocks h0 hw rfl (by rw [f_certificate, hn_1, exo_none, if_neg c_10, if_neg c_20, e_41, oel_some, if_neg c_53_0, if_pos c_53_1]) (Nat.le_of_ble_eq_true rfl) (Nat.le_of_ble_eq_true rfl) d_S_certificate_103)
          · skip
            rcases Classical.em (p3 = 2) with c_53_2 | c_53_2
            · refine lv_tableIn (tgt := 104) hx hb d_S_certificate_53 (by rw [c_53_2]; decide) (by rw [c_53_2]; decide) (by rw [c_53_2]; rfl) (by decide) ?_
              refine lv_aload hx hb d_S_certificate_104 (lv_at hl 0 rfl) ?_
              obtain ⟨k_106, hk_106⟩ := z_pool (ad := ad) (G := G) (wr := wr) (st := st) hm_a_41
              refine va_get (D := G.1) (ci := 0) (v := .int (st.2.2.2.2 a_41 3)) (C := R_C) (T := T_C) (N := 7) hx hb hts in_C hown h0.1 hw.1 k_106 hk_106 rfl 3 (by decide) (hg (.fieldLink R_S 131 "SecureEntry$Certificate" "value" "I") (by decide +kernel)) (fun _ h9 => h9) rfl d_S_certificate_106 ?_
              exact vx_ret (z_iret (wf := fun u : CS => (wC ad G u ++ wr)) (u := st) hx hb hr hlocks h0 hw rfl (by rw [f_certificate, hn_1, exo_none, if_neg c_10, if_neg c_20, e_41, oel_some, if_neg c_53_0, if_neg c_53_1, if_pos c_53_2]) (Nat.le_of_ble_eq_true rfl) (Nat.le_of_ble_eq_true rfl) d_S_certificate_109)
            · skip
              rcases Classical.em (p3 = 3) with c_53_3 | c_53_3
              · refine lv_tableIn (tgt := 110) hx hb d_S_certificate_53 (by rw [c_53_3]; decide) (by rw [c_53_3]; decide) (by rw [c_53_3]; rfl) (by decide) ?_
                refine lv_aload hx hb d_S_certificate_110 (lv_at hl 0 rfl) ?_
                obtain ⟨k_112, hk_112⟩ := z_pool (ad := ad) (G := G) (wr := wr) (st := st) hm_a_41
                refine va_get (D := G.1) (ci := 0) (v := .int (st.2.2.2.2 a_41 4)) (C := R_C) (T := T_C) (N := 7) hx hb hts in_C hown h0.1 hw.1 k_112 hk_112 rfl 4 (by decide) (hg (.fieldLink R_S 208 "SecureEntry$Certificate" "from" "I") (by decide +kernel)) (fun _ h9 => h9) rfl d_S_certificate_112 ?_
                exact vx_ret (z_iret (wf := fun u : CS => (wC ad G u ++ wr)) (u := st) hx hb hr hlocks h0 hw rfl (by rw [f_certificate, hn_1, exo_none, if_neg c_10, if_neg c_20, e_41, oel_some, if_neg c_53_0, if_neg c_53_1, if_neg c_53_2, if_pos c_53_3]) (Nat.le_of_ble_eq_true rfl) (Nat.le_of_ble_eq_true rfl) d_S_certificate_115)
              · skip
                rcases Classical.em (p3 = 4) with c_53_4 | c_53_4
                · refine lv_tableIn (tgt := 116) hx hb d_S_certificate_53 (by rw [c_53_4]; decide) (by rw [c_53_4]; decide) (by rw [c_53_4]; rfl) (by decide) ?_
                  refine lv_aload hx hb d_S_certificate_116 (lv_at hl 0 rfl) ?_
                  obtain ⟨k_118, hk_118⟩ := z_pool (ad := ad) (G := G) (wr := wr) (st := st) hm_a_41
                  refine va_get (D := G.1) (ci := 0) (v := .int (st.2.2.2.2 a_41 5)) (C := R_C) (T := T_C) (N := 7) hx hb hts in_C hown h0.1 hw.1 k_118 hk_118 rfl 5 (by decide) (hg (.fieldLink R_S 211 "SecureEntry$Certificate" "to" "I") (by decide +kernel)) (fun _ h9 => h9) rfl d_S_certificate_118 ?_
                  exact vx_ret (z_iret (wf := fun u : CS => (wC ad G u ++ wr)) (u := st) hx hb hr hlocks h0 hw rfl (by rw [f_certificate, hn_1, exo_none, if_neg c_10, if_neg c_20, e_41, oel_some, if_neg c_53_0, if_neg c_53_1, if_neg c_53_2, if_neg c_53_3, if_pos c_53_4]) (Nat.le_of_ble_eq_true rfl) (Nat.le_of_ble_eq_true rfl) d_S_certificate_121)
                · skip
                  rcases Classical.em (p3 = 5) with c_53_5 | c_53_5
                  · refine lv_tableIn (tgt := 122) hx hb d_S_certificate_53 (by rw [c_53_5]; decide) (by rw [c_53_5]; decide) (by rw [c_53_5]; rfl) (by decide) ?_
                    refine lv_aload hx hb d_S_certificate_122 (lv_at hl 0 rfl) ?_
                    obtain ⟨k_124, hk_124⟩ := z_pool (ad := ad) (G := G) (wr := wr) (st := st) hm_a_41
                    refine va_get (D := G.1) (ci := 0) (v := .int (st.2.2.2.2 a_41 6)) (C := R_C) (T := T_C) (N := 7) hx hb hts in_C hown h0.1 hw.1 k_124 hk_124 rfl 6 (by decide) (hg (.fieldLink R_S 214 "SecureEntry$Certificate" "signature" "I") (by decide +kernel)) (fun _ h9 => h9) rfl d_S_certificate_124 ?_
                    exact vx_ret (z_iret (wf := fun u : CS => (wC ad G u ++ wr)) (u := st) hx hb hr hlocks h0 hw rfl (by rw [f_certificate, hn_1, exo_none, if_neg c_10, if_neg c_20, e_41, oel_some, if_neg c_53_0, if_neg c_53_1, if_neg c_53_2, if_neg c_53_3, if_neg c_53_4, if_pos c_53_5]) (Nat.le_of_ble_eq_true rfl) (Nat.le_of_ble_eq_true rfl) d_S_certificate_127)
                  · refine lv_tableOut (tgt := 128) hx hb d_S_certificate_53 (z_tout6 c_53_0 c_53_1 c_53_2 c_53_3 c_53_4 c_53_5) (by decide) ?_
                    refine lv_aload_n hx hb d_S_certificate_128 rfl (lv_at hl 1 rfl) ?_
                    refine lv_aload hx hb d_S_certificate_129 (lv_at hl 0 rfl) ?_
                    refine z_Vi0 (As := [.ref a_41]) (v := (f_isValid st (some a_41))) ⟨hx, hb, hml, hown, hts⟩ (c_S_isValid l G ad st wr _ (some a_41) (by first | assumption | exact hI.2.2.2.1 | exact hI.2.2.2.2 | (unfold vp_in; decide) | exact Or.inr (by assumption) | exact cof_mem hI | (intro a h; cases h; assumption) | exact (hI.2.1 _ (by assumption)).1) (by first | assumption | exact hI.2.2.2.1 | exact hI.2.2.2.2 | (unfold vp_in; decide) | exact Or.inr (by assumption) | exact cof_mem hI | (intro a h; cases h; assumption) | exact (hI.2.1 _ (by assumption)).1)) (cwV 1 hts gV_S_217 rfl rfl rfl (by decide +kernel) ⟨Nat.le_of_ble_eq_true rfl, Nat.le_of_ble_eq_true rfl⟩) h0 hw 0 rfl rfl rfl rfl hl.1 rfl (Nat.le_of_ble_eq_true rfl) d_S_certificate_131 ⟨Nat.le_of_ble_eq_true rfl, Nat.le_of_ble_eq_true rfl⟩ (fun H locs hw => ?_)
                    refine z_Si0 (As := [.int (f_isValid st (some a_41))]) (v := (f_asNumber (f_isValid st (some a_41)))) ⟨hx, hb, hml, hown, hts⟩ (c_S_asNumber l G (wC ad G st ++ wr) _ (f_isValid st (some a_41))) (cwS 1 hts gS_S_221 rfl rfl rfl (by decide +kernel) ⟨Nat.le_of_ble_eq_true rfl, Nat.le_of_ble_eq_true rfl⟩) h0 hw rfl hl.1 rfl (Nat.le_of_ble_eq_true rfl) d_S_certificate_134 ⟨Nat.le_of_ble_eq_true rfl, Nat.le_of_ble_eq_true rfl⟩ (fun H locs hw => ?_)
                    exact vx_ret (z_iret (wf := fun u : CS => (wC ad G u ++ wr)) (u := st) hx hb hr hlocks h0 hw rfl (by rw [f_certificate, hn_1, exo_none, if_neg c_10, if_neg c_20, e_41, oel_some, if_neg c_53_0, if_neg c_53_1, if_neg c_53_2, if_neg c_53_3, if_neg c_53_4, if_neg c_53_5]) (Nat.le_of_ble_eq_true rfl) (Nat.le_of_ble_eq_true rfl) d_S_certificate_137)
    · exact z_throw0 (cls := "java/lang/IllegalArgumentException") (ic := 56) hx hb hl9 hown (hg (.classLink R_S 54 "java/lang/IllegalArgumentException") (by decide +kernel)) (hg (.initialized "java/lang/IllegalArgumentException") (by decide +kernel)) (hat_S56 hts h0.2.1) (by decide +kernel) h0 hw (hl.1.trans hml.symm) d_S_certificate_23 d_S_certificate_26 d_S_certificate_27 d_S_certificate_30 hex (Nat.le_of_ble_eq_true rfl) (Nat.le_of_ble_eq_true rfl) (Nat.le_of_ble_eq_true rfl) (Nat.le_of_ble_eq_true rfl) hlocks (by rw [f_certificate, hn_1, exo_none, if_neg c_10, if_pos c_20]) (Nat.le_of_ble_eq_true rfl) (Nat.le_of_ble_eq_true rfl)
set_option maxHeartbeats 4000000 in
set_option maxRecDepth 100000 in
theorem c_S_count (l : Launch) (hl9 : l.stackTraces = false) (G : gG) (ad : Nat → Nat) (st : CS) (wr : va_W) (sz : Nat) (p1 : Int32)  : vx_Met l y_S_count w_S_count { frames := 6, cells := 1, slots := 6, locals := 81 } (va_Pc [.ref (ad 0), .int p1] (z_pre G (wC ad G st ++ wr) sz)) (z_Qi G (wC ad G st ++ wr) sz (fun u : CS => (wC ad G u ++ wr)) (fun r u => f_count st p1 = .inr (r, u))) (z_X G (wC ad G st ++ wr) sz (fun E => f_count st p1 = .inl E)) 1 6 (va_A (wC ad G st ++ wr) sz) := by
  refine vx_ofW (cc := b_S_count) (maxL := 2) (ret := (some .int)) (by decide) rfl ?_
  intro p e s m args below meth c s₁ B hml hex hv
  obtain ⟨rfl, hsz, hP, hK, hD0, ham⟩ := hv
  subst hsz
  have hx := B.exec
  have hb := B.bytes
  have hr := B.returns
  have hts : ∀ w ∈ goT, w.before _ s = true := fun w h => atoms_spec (ws := w_S_count) B.pre w (List.mem_cons_of_mem _ h)
  have hg : ∀ w, goB w = true → w.before _ s = true := fun w h => hts w (goI h)
  have hown : s.vm.findClass R_S = some m.cls := findClass_of_methodNamed B.named
  have hlocks := B.notSynchronized
  have h0 : z_st G (wC ad G st ++ wr) s := ⟨hK, ham⟩
  have hw : z_wl G (wC ad G st ++ wr) s (wC ad G st ++ wr) s.heap [] := z_0 hP hD0
  have hl := lv_entry ([.ref (ad 0), .int p1]) (n := 2) (Nat.le_of_ble_eq_true rfl)
  rw [lg_entry_eq]
  generalize (lg_sl ([.ref (ad 0), .int p1]) ++ List.replicate (2 - (lg_sl ([.ref (ad 0), .int p1])).length) Slot.unset).toArray = ls at hl ⊢
  have hl : lv_has ls 2 [(0, .ref (ad 0)), (1, .int p1)] := hl
  refine lv_iload_n hx hb d_S_count_0 rfl (lv_at hl 1 rfl) ?_
  rcases Classical.em (p1 = 0) with c_1_0 | c_1_0
  · refine lv_tableIn (tgt := 60) hx hb d_S_count_1 (by rw [c_1_0]; decide) (by rw [c_1_0]; decide) (by rw [c_1_0]; rfl) (by decide) ?_
    refine lv_aload_n hx hb d_S_count_60 rfl (lv_at hl 0 rfl) ?_
    refine va_get (D := G.1) (ci := 2) (v := .int (st.1 5)) (C := R_S) (T := T_S) (N := 14) hx hb hts in_S hown h0.1 hw.1 0 rfl rfl 5 (by decide) (hg (.fieldLink R_S 87 "SecureEntry" "up" "Z") (by decide +kernel)) (fun _ h9 => h9) rfl d_S_count_61 ?_
    refine z_Si0 (As := [.int (st.1 5)]) (v := (f_asNumber (st.1 5))) ⟨hx, hb, hml, hown, hts⟩ (c_S_asNumber l G (wC ad G st ++ wr) _ (st.1 5)) (cwS 1 hts gS_S_221 rfl rfl rfl (by decide +kernel) ⟨Nat.le_of_ble_eq_true rfl, Nat.le_of_ble_eq_true rfl⟩) h0 hw rfl hl.1 rfl (Nat.le_of_ble_eq_true rfl) d_S_count_64 ⟨Nat.le_of_ble_eq_true rfl, Nat.le_of_ble_eq_true rfl⟩ (fun H locs hw => ?_)
    exact vx_ret (z_iret (wf := fun u : CS => (wC ad G u ++ wr)) (u := st) hx hb hr hlocks h0 hw rfl (by rw [f_count, if_pos c_1_0]) (Nat.le_of_ble_eq_true rfl) (Nat.le_of_ble_eq_true rfl) d_S_count_67)
  · skip
    rcases Classical.em (p1 = 1) with c_1_1 | c_1_1
    · refine lv_tableIn (tgt := 68) hx hb d_S_count_1 (by rw [c_1_1]; decide) (by rw [c_1_1]; decide) (by rw [c_1_1]; rfl) (by decide) ?_
      refine lv_aload_n hx hb d_S_count_68 rfl (lv_at hl 0 rfl) ?_
      refine va_get (D := G.1) (ci := 2) (v := .int (st.1 6)) (C := R_S) (T := T_S) (N := 14) hx hb hts in_S hown h0.1 hw.1 0 rfl rfl 6 (by decide) (hg (.fieldLink R_S 37 "SecureEntry" "userState" "I") (by decide +kernel)) (fun _ h9 => h9) rfl d_S_count_69 ?_
      exact vx_ret (z_iret (wf := fun u : CS => (wC ad G u ++ wr)) (u := st) hx hb hr hlocks h0 hw rfl (by rw [f_count, if_neg c_1_0, if_pos c_1_1]) (Nat.le_of_ble_eq_true rfl) (Nat.le_of_ble_eq_true rfl) d_S_count_72)
    · skip
      rcases Classical.em (p1 = 2) with c_1_2 | c_1_2
      · refine lv_tableIn (tgt := 73) hx hb d_S_count_1 (by rw [c_1_2]; decide) (by rw [c_1_2]; decide) (by rw [c_1_2]; rfl) (by decide) ?_
        refine lv_aload_n hx hb d_S_count_73 rfl (lv_at hl 0 rfl) ?_
        refine va_get (D := G.1) (ci := 2) (v := .int (st.1 10)) (C := R_S) (T := T_S) (N := 14) hx hb hts in_S hown h0.1 hw.1 0 rfl rfl 10 (by decide) (hg (.fieldLink R_S 47 "SecureEntry" "administratorRole" "I") (by decide +kernel)) (fun _ h9 => h9) rfl d_S_count_74 ?_
        exact vx_ret (z_iret (wf := fun u : CS => (wC ad G u ++ wr)) (u := st) hx hb hr hlocks h0 hw rfl (by rw [f_count, if_neg c_1_0, if_neg c_1_1, if_pos c_1_2]) (Nat.le_of_ble_eq_true rfl) (Nat.le_of_ble_eq_true rfl) d_S_count_77)
      · skip
        rcases Classical.em (p1 = 3) with c_1_3 | c_1_3
        · refine lv_tableIn (tgt := 78) hx hb d_S_count_1 (by rw [c_1_3]; decide) (by rw [c_1_3]; decide) (by rw [c_1_3]; rfl) (by decide) ?_
          refine lv_aload_n hx hb d_S_count_78 rfl (lv_at hl 0 rfl) ?_
          refine z_Vi0 (As := []) (v := (f_isUnlocked st)) ⟨hx, hb, hml, hown, hts⟩ (c_S_isUnlocked l G ad st wr _) (cwV 0 hts gV_S_176 rfl rfl rfl (by decide +kernel) ⟨Nat.le_of_ble_eq_true rfl, Nat.le_of_ble_eq_true rfl⟩) h0 hw 0 rfl rfl rfl rfl hl.1 rfl (Nat.le_of_ble_eq_true rfl) d_S_count_79 ⟨Nat.le_of_ble_eq_true rfl, Nat.le_of_ble_eq_true rfl⟩ (fun H locs hw => ?_)
          refine z_Si0 (As := [.int (f_isUnlocked st)]) (v := (f_asNumber (f_isUnlocked st))) ⟨hx, hb, hml, hown, hts⟩ (c_S_asNumber l G (wC ad G st ++ wr) _ (f_isUnlocked st)) (cwS 1 hts gS_S_221 rfl rfl rfl (by decide +kernel) ⟨Nat.le_of_ble_eq_true rfl, Nat.le_of_ble_eq_true rfl⟩) h0 hw rfl hl.1 rfl (Nat.le_of_ble_eq_true rfl) d_S_count_82 ⟨Nat.le_of_ble_eq_true rfl, Nat.le_of_ble_eq_true rfl⟩ (fun H locs hw => ?_)
          exact vx_ret (z_iret (wf := fun u : CS => (wC ad G u ++ wr)) (u := st) hx hb hr hlocks h0 hw rfl (by rw [f_count, if_neg c_1_0, if_neg c_1_1, if_neg c_1_2, if_pos c_1_3]) (Nat.le_of_ble_eq_true rfl) (Nat.le_of_ble_eq_true rfl) d_S_count_85)
        · skip
          rcases Classical.em (p1 = 4) with c_1_4 | c_1_4
          · refine lv_tableIn (tgt := 86) hx hb d_S_count_1 (by rw [c_1_4]; decide) (by rw [c_1_4]; decide) (by rw [c_1_4]; rfl) (by decide) ?_
            refine lv_aload_n hx hb d_S_count_86 rfl (lv_at hl 0 rfl) ?_
            refine va_get (D := G.1) (ci := 2) (v := .int (st.1 13)) (C := R_S) (T := T_S) (N := 14) hx hb hts in_S hown h0.1 hw.1 0 rfl rfl 13 (by decide) (hg (.fieldLink R_S 173 "SecureEntry" "doorOpen" "Z") (by decide +kernel)) (fun _ h9 => h9) rfl d_S_count_87 ?_
            refine z_Si0 (As := [.int (st.1 13)]) (v := (f_asNumber (st.1 13))) ⟨hx, hb, hml, hown, hts⟩ (c_S_asNumber l G (wC ad G st ++ wr) _ (st.1 13)) (cwS 1 hts gS_S_221 rfl rfl rfl (by decide +kernel) ⟨Nat.le_of_ble_eq_true rfl, Nat.le_of_ble_eq_true rfl⟩) h0 hw rfl hl.1 rfl (Nat.le_of_ble_eq_true rfl) d_S_count_90 ⟨Nat.le_of_ble_eq_true rfl, Nat.le_of_ble_eq_true rfl⟩ (fun H locs hw => ?_)
            exact vx_ret (z_iret (wf := fun u : CS => (wC ad G u ++ wr)) (u := st) hx hb hr hlocks h0 hw rfl (by rw [f_count, if_neg c_1_0, if_neg c_1_1, if_neg c_1_2, if_neg c_1_3, if_pos c_1_4]) (Nat.le_of_ble_eq_true rfl) (Nat.le_of_ble_eq_true rfl) d_S_count_93)
          · skip
            rcases Classical.em (p1 = 5) with c_1_5 | c_1_5
            · refine lv_tableIn (tgt := 94) hx hb d_S_count_1 (by rw [c_1_5]; decide) (by rw [c_1_5]; decide) (by rw [c_1_5]; rfl) (by decide) ?_
              refine lv_aload_n hx hb d_S_count_94 rfl (lv_at hl 0 rfl) ?_
              refine z_Vi0 (As := []) (v := (f_isAlarmSounding st)) ⟨hx, hb, hml, hown, hts⟩ (c_S_isAlarmSounding l G ad st wr _) (cwV 0 hts gV_S_225 rfl rfl rfl (by decide +kernel) ⟨Nat.le_of_ble_eq_true rfl, Nat.le_of_ble_eq_true rfl⟩) h0 hw 0 rfl rfl rfl rfl hl.1 rfl (Nat.le_of_ble_eq_true rfl) d_S_count_95 ⟨Nat.le_of_ble_eq_true rfl, Nat.le_of_ble_eq_true rfl⟩ (fun H locs hw => ?_)
              refine z_Si0 (As := [.int (f_isAlarmSounding st)]) (v := (f_asNumber (f_isAlarmSounding st))) ⟨hx, hb, hml, hown, hts⟩ (c_S_asNumber l G (wC ad G st ++ wr) _ (f_isAlarmSounding st)) (cwS 1 hts gS_S_221 rfl rfl rfl (by decide +kernel) ⟨Nat.le_of_ble_eq_true rfl, Nat.le_of_ble_eq_true rfl⟩) h0 hw rfl hl.1 rfl (Nat.le_of_ble_eq_true rfl) d_S_count_98 ⟨Nat.le_of_ble_eq_true rfl, Nat.le_of_ble_eq_true rfl⟩ (fun H locs hw => ?_)
              exact vx_ret (z_iret (wf := fun u : CS => (wC ad G u ++ wr)) (u := st) hx hb hr hlocks h0 hw rfl (by rw [f_count, if_neg c_1_0, if_neg c_1_1, if_neg c_1_2, if_neg c_1_3, if_neg c_1_4, if_pos c_1_5]) (Nat.le_of_ble_eq_true rfl) (Nat.le_of_ble_eq_true rfl) d_S_count_101)
            · skip
              rcases Classical.em (p1 = 6) with c_1_6 | c_1_6
              · refine lv_tableIn (tgt := 102) hx hb d_S_count_1 (by rw [c_1_6]; decide) (by rw [c_1_6]; decide) (by rw [c_1_6]; rfl) (by decide) ?_
                refine lv_aload_n hx hb d_S_count_102 rfl (lv_at hl 0 rfl) ?_
                refine va_get (D := G.1) (ci := 2) (v := .ref (ad 4)) (C := R_S) (T := T_S) (N := 14) hx hb hts in_S hown h0.1 hw.1 0 rfl rfl 3 (by decide) (hg (.fieldLink R_S 33 "SecureEntry" "log" "LSecureEntry$Log;") (by decide +kernel)) (fun _ h9 => h9) rfl d_S_count_103 ?_
                refine va_get (D := G.1) (ci := 1) (v := .int (st.1 15)) (C := R_O) (T := T_O) (N := 5) hx hb hts in_O hown h0.1 hw.1 4 rfl rfl 4 (by decide) (hg (.fieldLink R_S 228 "SecureEntry$Log" "alarm" "Z") (by decide +kernel)) (fun _ h9 => h9) rfl d_S_count_106 ?_
                refine z_Si0 (As := [.int (st.1 15)]) (v := (f_asNumber (st.1 15))) ⟨hx, hb, hml, hown, hts⟩ (c_S_asNumber l G (wC ad G st ++ wr) _ (st.1 15)) (cwS 1 hts gS_S_221 rfl rfl rfl (by decide +kernel) ⟨Nat.le_of_ble_eq_true rfl, Nat.le_of_ble_eq_true rfl⟩) h0 hw rfl hl.1 rfl (Nat.le_of_ble_eq_true rfl) d_S_count_109 ⟨Nat.le_of_ble_eq_true rfl, Nat.le_of_ble_eq_true rfl⟩ (fun H locs hw => ?_)
                exact vx_ret (z_iret (wf := fun u : CS => (wC ad G u ++ wr)) (u := st) hx hb hr hlocks h0 hw rfl (by rw [f_count, if_neg c_1_0, if_neg c_1_1, if_neg c_1_2, if_neg c_1_3, if_neg c_1_4, if_neg c_1_5, if_pos c_1_6]) (Nat.le_of_ble_eq_true rfl) (Nat.le_of_ble_eq_true rfl) d_S_count_112)
              · skip
                rcases Classical.em (p1 = 7) with c_1_7 | c_1_7
                · refine lv_tableIn (tgt := 113) hx hb d_S_count_1 (by rw [c_1_7]; decide) (by rw [c_1_7]; decide) (by rw [c_1_7]; rfl) (by decide) ?_
                  refine lv_aload_n hx hb d_S_count_113 rfl (lv_at hl 0 rfl) ?_
                  refine va_get (D := G.1) (ci := 2) (v := .ref (ad 4)) (C := R_S) (T := T_S) (N := 14) hx hb hts in_S hown h0.1 hw.1 0 rfl rfl 3 (by decide) (hg (.fieldLink R_S 33 "SecureEntry" "log" "LSecureEntry$Log;") (by decide +kernel)) (fun _ h9 => h9) rfl d_S_count_114 ?_
                  refine va_get (D := G.1) (ci := 1) (v := .int (st.1 14)) (C := R_O) (T := T_O) (N := 5) hx hb hts in_O hown h0.1 hw.1 4 rfl rfl 3 (by decide) (hg (.fieldLink R_S 164 "SecureEntry$Log" "size" "I") (by decide +kernel)) (fun _ h9 => h9) rfl d_S_count_117 ?_
                  exact vx_ret (z_iret (wf := fun u : CS => (wC ad G u ++ wr)) (u := st) hx hb hr hlocks h0 hw rfl (by rw [f_count, if_neg c_1_0, if_neg c_1_1, if_neg c_1_2, if_neg c_1_3, if_neg c_1_4, if_neg c_1_5, if_neg c_1_6, if_pos c_1_7]) (Nat.le_of_ble_eq_true rfl) (Nat.le_of_ble_eq_true rfl) d_S_count_120)
                · skip
                  rcases Classical.em (p1 = 8) with c_1_8 | c_1_8
                  · refine lv_tableIn (tgt := 121) hx hb d_S_count_1 (by rw [c_1_8]; decide) (by rw [c_1_8]; decide) (by rw [c_1_8]; rfl) (by decide) ?_
                    refine lv_aload_n hx hb d_S_count_121 rfl (lv_at hl 0 rfl) ?_
                    refine va_get (D := G.1) (ci := 2) (v := .int (st.1 4)) (C := R_S) (T := T_S) (N := 14) hx hb hts in_S hown h0.1 hw.1 0 rfl rfl 4 (by decide) (hg (.fieldLink R_S 101 "SecureEntry" "time" "I") (by decide +kernel)) (fun _ h9 => h9) rfl d_S_count_122 ?_
                    exact vx_ret (z_iret (wf := fun u : CS => (wC ad G u ++ wr)) (u := st) hx hb hr hlocks h0 hw rfl (by rw [f_count, if_neg c_1_0, if_neg c_1_1, if_neg c_1_2, if_neg c_1_3, if_neg c_1_4, if_neg c_1_5, if_neg c_1_6, if_neg c_1_7, if_pos c_1_8]) (Nat.le_of_ble_eq_true rfl) (Nat.le_of_ble_eq_true rfl) d_S_count_125)
                  · skip
                    rcases Classical.em (p1 = 9) with c_1_9 | c_1_9
                    · refine lv_tableIn (tgt := 126) hx hb d_S_count_1 (by rw [c_1_9]; decide) (by rw [c_1_9]; decide) (by rw [c_1_9]; rfl) (by decide) ?_
                      refine lv_aload_n hx hb d_S_count_126 rfl (lv_at hl 0 rfl) ?_
                      refine va_get (D := G.1) (ci := 2) (v := .int (st.1 8)) (C := R_S) (T := T_S) (N := 14) hx hb hts in_S hown h0.1 hw.1 0 rfl rfl 8 (by decide) (hg (.fieldLink R_S 41 "SecureEntry" "outerToken" "I") (by decide +kernel)) (fun _ h9 => h9) rfl d_S_count_127 ?_
                      exact vx_ret (z_iret (wf := fun u : CS => (wC ad G u ++ wr)) (u := st) hx hb hr hlocks h0 hw rfl (by rw [f_count, if_neg c_1_0, if_neg c_1_1, if_neg c_1_2, if_neg c_1_3, if_neg c_1_4, if_neg c_1_5, if_neg c_1_6, if_neg c_1_7, if_neg c_1_8, if_pos c_1_9]) (Nat.le_of_ble_eq_true rfl) (Nat.le_of_ble_eq_true rfl) d_S_count_130)
                    · skip
                      rcases Classical.em (p1 = 10) with c_1_10 | c_1_10
                      · refine lv_tableIn (tgt := 131) hx hb d_S_count_1 (by rw [c_1_10]; decide) (by rw [c_1_10]; decide) (by rw [c_1_10]; rfl) (by decide) ?_
                        refine lv_aload_n hx hb d_S_count_131 rfl (lv_at hl 0 rfl) ?_
                        refine va_get (D := G.1) (ci := 2) (v := .int (st.1 9)) (C := R_S) (T := T_S) (N := 14) hx hb hts in_S hown h0.1 hw.1 0 rfl rfl 9 (by decide) (hg (.fieldLink R_S 44 "SecureEntry" "innerToken" "I") (by decide +kernel)) (fun _ h9 => h9) rfl d_S_count_132 ?_
                        exact vx_ret (z_iret (wf := fun u : CS => (wC ad G u ++ wr)) (u := st) hx hb hr hlocks h0 hw rfl (by rw [f_count, if_neg c_1_0, if_neg c_1_1, if_neg c_1_2, if_neg c_1_3, if_neg c_1_4, if_neg c_1_5, if_neg c_1_6, if_neg c_1_7, if_neg c_1_8, if_neg c_1_9, if_pos c_1_10]) (Nat.le_of_ble_eq_true rfl) (Nat.le_of_ble_eq_true rfl) d_S_count_135)
                      · refine lv_tableOut (tgt := 136) hx hb d_S_count_1 (z_tout11 c_1_0 c_1_1 c_1_2 c_1_3 c_1_4 c_1_5 c_1_6 c_1_7 c_1_8 c_1_9 c_1_10) (by decide) ?_
                        exact z_throw0 (cls := "java/lang/IllegalArgumentException") (ic := 56) hx hb hl9 hown (hg (.classLink R_S 54 "java/lang/IllegalArgumentException") (by decide +kernel)) (hg (.initialized "java/lang/IllegalArgumentException") (by decide +kernel)) (hat_S56 hts h0.2.1) (by decide +kernel) h0 hw (hl.1.trans hml.symm) d_S_count_136 d_S_count_139 d_S_count_140 d_S_count_143 hex (Nat.le_of_ble_eq_true rfl) (Nat.le_of_ble_eq_true rfl) (Nat.le_of_ble_eq_true rfl) (Nat.le_of_ble_eq_true rfl) hlocks (by rw [f_count, if_neg c_1_0, if_neg c_1_1, if_neg c_1_2, if_neg c_1_3, if_neg c_1_4, if_neg c_1_5, if_neg c_1_6, if_neg c_1_7, if_neg c_1_8, if_neg c_1_9, if_neg c_1_10]) (Nat.le_of_ble_eq_true rfl) (Nat.le_of_ble_eq_true rfl)
end CON
end
section
section CON
set_option maxHeartbeats 4000000 in
set_option maxRecDepth 100000 in
theorem c_S_certify (l : Launch) (hl9 : l.stackTraces = false) (G : gG) (ad : Nat → Nat) (st : CS) (wr : va_W) (sz : Nat) (p1 : Int32) (p2 : Int32) (p3 : Int32) (p4 : Int32) (p5 : Int32) (p6 : Int32) (p7 : Int32) (p8 : Int32) (hI : InvC st) : vx_Met l y_S_certify w_S_certify { frames := 7, cells := 3, slots := 19, locals := 102 } (va_Pc [.ref (ad 0), .int p1, .int p2, .int p3, .int p4, .int p5, .int p6, .int p7, .int p8] (z_pre G (wC ad G st ++ wr) sz)) (z_Qi G (wC ad G st ++ wr) sz (fun u : CS => (wC ad G u ++ wr)) (fun r u => ∃ q9, q9 ∉ st.2.2.2.1 ∧ f_certify st p1 p2 p3 p4 p5 p6 p7 p8 q9 = .inr (r, u))) (z_X G (wC ad G st ++ wr) sz (fun E => ∀ q9, f_certify st p1 p2 p3 p4 p5 p6 p7 p8 q9 = .inl E)) 3 19 (va_A (wC ad G st ++ wr) sz) := by
  refine vx_ofW (cc := b_S_certify) (maxL := 10) (ret := (some .int)) (by decide) rfl ?_
  intro p e s m args below meth c s₁ B hml hex hv
  obtain ⟨rfl, hsz, hP, hK, hD0, ham⟩ := hv
  subst hsz
  have hx := B.exec
  have hb := B.bytes
  have hr := B.returns
  have hts : ∀ w ∈ goT, w.before _ s = true := fun w h => atoms_spec (ws := w_S_certify) B.pre w (List.mem_cons_of_mem _ h)
  have hg : ∀ w, goB w = true → w.before _ s = true := fun w h => hts w (goI h)
  have hown : s.vm.findClass R_S = some m.cls := findClass_of_methodNamed B.named
  have hlocks := B.notSynchronized
  have h0 : z_st G (wC ad G st ++ wr) s := ⟨hK, ham⟩
  have hw : z_wl G (wC ad G st ++ wr) s (wC ad G st ++ wr) s.heap [] := z_0 hP hD0
  have hl := lv_entry ([.ref (ad 0), .int p1, .int p2, .int p3, .int p4, .int p5, .int p6, .int p7, .int p8]) (n := 10) (Nat.le_of_ble_eq_true rfl)
  rw [lg_entry_eq]
  generalize (lg_sl ([.ref (ad 0), .int p1, .int p2, .int p3, .int p4, .int p5, .int p6, .int p7, .int p8]) ++ List.replicate (10 - (lg_sl ([.ref (ad 0), .int p1, .int p2, .int p3, .int p4, .int p5, .int p6, .int p7, .int p8])).length) Slot.unset).toArray = ls at hl ⊢
  have hl : lv_has ls 10 [(0, .ref (ad 0)), (1, .int p1), (2, .int p2), (3, .int p3), (4, .int p4), (5, .int p5), (6, .int p6), (7, .int p7), (8, .int p8)] := hl
  refine lv_iload_n hx hb d_S_certify_0 rfl (lv_at hl 1 rfl) ?_
  refine z_SXn (As := [.int p1]) (P := fun E => (f_requireToken p1) = some E) (N := (f_requireToken p1) = none) ⟨hx, hb, hml, hown, hts⟩ (c_S_requireToken l hl9 G (wC ad G st ++ wr) _ p1) (cwS 1 hts gS_S_65 rfl rfl rfl (by decide +kernel) ⟨Nat.le_of_ble_eq_true rfl, Nat.le_of_ble_eq_true rfl⟩) h0 hw rfl hl.1 rfl (Nat.le_of_ble_eq_true rfl) d_S_certify_1 ⟨Nat.le_of_ble_eq_true rfl, Nat.le_of_ble_eq_true rfl⟩ (fun E ce q9 H locs hE hw hce hcv hcl => z_out hex hlocks h0 hw hce hcv hcl (by intro q9; rw [f_certify, hE, exo_some]) (Nat.le_of_ble_eq_true rfl) (Nat.le_of_ble_eq_true rfl)) (fun H locs hn_1 hw => ?_)
  have hp1 : vp_in p1 6 := rtk_in hn_1
  refine lv_iload_n hx hb d_S_certify_4 rfl (lv_at hl 2 rfl) ?_
  refine lv_iload_n hx hb d_S_certify_5 rfl (lv_at hl 3 rfl) ?_
  refine lv_iload hx hb d_S_certify_6 (lv_at hl 4 rfl) ?_
  refine lv_iload hx hb d_S_certify_8 (lv_at hl 5 rfl) ?_
  refine lv_iload hx hb d_S_certify_10 (lv_at hl 6 rfl) ?_
  refine lv_iload hx hb d_S_certify_12 (lv_at hl 7 rfl) ?_
  refine z_Si0 (As := [.int p2, .int p3, .int p4, .int p5, .int p6, .int p7]) (v := (f_areCertificateNumbers p2 p3 p4 p5 p6 p7)) ⟨hx, hb, hml, hown, hts⟩ (c_S_areCertificateNumbers l G (wC ad G st ++ wr) _ p2 p3 p4 p5 p6 p7) (cwS 6 hts gS_S_50 rfl rfl rfl (by decide +kernel) ⟨Nat.le_of_ble_eq_true rfl, Nat.le_of_ble_eq_true rfl⟩) h0 hw rfl hl.1 rfl (Nat.le_of_ble_eq_true rfl) d_S_certify_14 ⟨Nat.le_of_ble_eq_true rfl, Nat.le_of_ble_eq_true rfl⟩ (fun H locs hw => ?_)
  refine lv_if_eq (tgt := 32) hx hb d_S_certify_17 (by decide) (fun c_17 => ?_) (fun c_17 => ?_)
  · exact z_throw0 (cls := "java/lang/IllegalArgumentException") (ic := 56) hx hb hl9 hown (hg (.classLink R_S 54 "java/lang/IllegalArgumentException") (by decide +kernel)) (hg (.initialized "java/lang/IllegalArgumentException") (by decide +kernel)) (hat_S56 hts h0.2.1) (by decide +kernel) h0 hw (hl.1.trans hml.symm) d_S_certify_32 d_S_certify_35 d_S_certify_36 d_S_certify_39 hex (Nat.le_of_ble_eq_true rfl) (Nat.le_of_ble_eq_true rfl) (Nat.le_of_ble_eq_true rfl) (Nat.le_of_ble_eq_true rfl) hlocks (by intro q9; rw [f_certify, hn_1, exo_none, if_pos c_17]) (Nat.le_of_ble_eq_true rfl) (Nat.le_of_ble_eq_true rfl)
  · refine lv_iload hx hb d_S_certify_20 (lv_at hl 8 rfl) ?_
    refine lv_iconst (v := 0) hx hb d_S_certify_22 (by decide) ?_
    refine lv_sipush (v := 9972) hx hb d_S_certify_23 (by decide) ?_
    refine z_Si0 (As := [.int p8, .int 0, .int 9972]) (v := (f_isWithin p8 0 9972)) ⟨hx, hb, hml, hown, hts⟩ (c_S_isWithin l G (wC ad G st ++ wr) _ p8 0 9972) (cwS 3 hts gS_S_69 rfl rfl rfl (by decide +kernel) ⟨Nat.le_of_ble_eq_true rfl, Nat.le_of_ble_eq_true rfl⟩) h0 hw rfl hl.1 rfl (Nat.le_of_ble_eq_true rfl) d_S_certify_26 ⟨Nat.le_of_ble_eq_true rfl, Nat.le_of_ble_eq_true rfl⟩ (fun H locs hw => ?_)
    refine lv_if_ne (tgt := 40) hx hb d_S_certify_29 (by decide) (fun c_29 => ?_) (fun c_29 => ?_)
    · have hp2 : vp_in p2 4 := acn_kind c_17
      have hp3 : vp_in p3 7 := acn_iss c_17
      refine lv_aload_n hx hb d_S_certify_40 rfl (lv_at hl 0 rfl) ?_
      refine lv_iload_n hx hb d_S_certify_41 rfl (lv_at hl 1 rfl) ?_
      refine z_VXn (As := [.int p1]) (P := fun E => (f_requireInNoReader st p1) = some E) (N := (f_requireInNoReader st p1) = none) ⟨hx, hb, hml, hown, hts⟩ (c_S_requireInNoReader l hl9 G ad st wr _ p1) (cwV 1 hts gV_S_73 rfl rfl rfl (by decide +kernel) ⟨Nat.le_of_ble_eq_true rfl, Nat.le_of_ble_eq_true rfl⟩) h0 hw 0 rfl rfl rfl rfl hl.1 rfl (Nat.le_of_ble_eq_true rfl) d_S_certify_42 ⟨Nat.le_of_ble_eq_true rfl, Nat.le_of_ble_eq_true rfl⟩ (fun E ce q9 H locs hE hw hce hcv hcl => z_out hex hlocks h0 hw hce hcv hcl (by intro q9; rw [f_certify, hn_1, exo_none, if_neg c_17, if_neg c_29, hE, exo_some]) (Nat.le_of_ble_eq_true rfl) (Nat.le_of_ble_eq_true rfl)) (fun H locs hn_42 hw => ?_)
      refine lv_aload_n hx hb d_S_certify_45 rfl (lv_at hl 0 rfl) ?_
      refine lv_iload_n hx hb d_S_certify_46 rfl (lv_at hl 1 rfl) ?_
      refine lv_iload_n hx hb d_S_certify_47 rfl (lv_at hl 2 rfl) ?_
      refine z_Vq0 (As := [.int p1, .int p2]) (v := (f_certificateOf st p1 p2)) ⟨hx, hb, hml, hown, hts⟩ (c_S_certificateOf l G ad st wr _ p1 p2 (by first | assumption | exact hI.2.2.2.1 | exact hI.2.2.2.2 | (unfold vp_in; decide) | exact Or.inr (by assumption) | exact cof_mem hI | (intro a h; cases h; assumption) | exact (hI.2.1 _ (by assumption)).1) (by first | assumption | exact hI.2.2.2.1 | exact hI.2.2.2.2 | (unfold vp_in; decide) | exact Or.inr (by assumption) | exact cof_mem hI | (intro a h; cases h; assumption) | exact (hI.2.1 _ (by assumption)).1)) (cwV 2 hts gV_S_76 rfl rfl rfl (by decide +kernel) ⟨Nat.le_of_ble_eq_true rfl, Nat.le_of_ble_eq_true rfl⟩) h0 hw 0 rfl rfl rfl rfl hl.1 rfl (Nat.le_of_ble_eq_true rfl) d_S_certify_48 ⟨Nat.le_of_ble_eq_true rfl, Nat.le_of_ble_eq_true rfl⟩ (fun H locs hw => ?_)
      refine z_ifnonnull (r := (f_certificateOf st p1 p2)) (tgt := 58) hx hb d_S_certify_51 (by decide) (fun e_51 => ?_) (fun a_51 e_51 => ?_)
      · refine lv_iconst (v := 1) hx hb d_S_certify_54 (by decide) ?_
        refine lv_goto (tgt := 59) hx hb d_S_certify_55 (by decide) ?_
        refine lv_istore (lv' := [(9, .int 1), (0, .ref (ad 0)), (1, .int p1), (2, .int p2), (3, .int p3), (4, .int p4), (5, .int p5), (6, .int p6), (7, .int p7), (8, .int p8)]) hx hb d_S_certify_59 hl (by decide) rfl (fun ls hl => ?_)
        refine lv_aload_n hx hb d_S_certify_61 rfl (lv_at hl 1 rfl) ?_
        refine lv_iload_n hx hb d_S_certify_62 rfl (lv_at hl 2 rfl) ?_
        refine va_new (D := G.1) (ci := 0) (fs := [.int 0, .int 0, .int 0, .int 0, .int 0, .int 0, .int 0]) (C := R_C) (T := T_C) (N := 7) hx hb hts in_C ty_C ty_C_ok hown (hg (.classLink R_S 24 R_C) (by decide +kernel)) (hg (.instantiable R_C 7) (by decide +kernel)) (hg (.initialized R_C) (by decide +kernel)) h0.1 hw.1 hw.2.1 hw.2.2 (fun q h => Or.inr h) rfl (fun j hj => by rcases (show j = 0 ∨ j = 1 ∨ j = 2 ∨ j = 3 ∨ j = 4 ∨ j = 5 ∨ j = 6 by omega) with rfl | rfl | rfl | rfl | rfl | rfl | rfl <;> rfl) (Nat.le_of_ble_eq_true rfl) (Nat.le_of_ble_eq_true rfl) d_S_certify_63 (fun q_63 H hP hD hS => ?_)
        have hw := z_asc (G := G) (ws0 := (wC ad G st ++ wr)) (s := s) (a := wC ad G st) (b := wr) (c := [(q_63, .inr (0, [.int 0, .int 0, .int 0, .int 0, .int 0, .int 0, .int 0]))]) hP hD hS
        refine lv_dup hx hb d_S_certify_66 rfl ?_
        refine lv_iload_n hx hb d_S_certify_67 rfl (lv_at hl 3 rfl) ?_
        refine lv_iload_n hx hb d_S_certify_68 rfl (lv_at hl 4 rfl) ?_
        refine lv_iload hx hb d_S_certify_69 (lv_at hl 5 rfl) ?_
        refine lv_iload hx hb d_S_certify_71 (lv_at hl 6 rfl) ?_
        refine lv_iload hx hb d_S_certify_73 (lv_at hl 7 rfl) ?_
        refine lv_iload hx hb d_S_certify_75 (lv_at hl 8 rfl) ?_
        refine lv_iload hx hb d_S_certify_77 (lv_at hl 9 rfl) ?_
        have hw := z_csa hw
        refine z_Iv0 (As := [.int p2, .int p3, .int p4, .int p5, .int p6, .int p7, .int p8]) (ws1 := (wC ad G st ++ wr) ++ [(q_63, .inr (0, [.int p2, .int p3, .int p4, .int p5, .int p6, .int p7, .int p8]))]) ⟨hx, hb, hml, hown, hts⟩ (c_C_init l G (wC ad G st ++ wr) _ q_63 p2 p3 p4 p5 p6 p7 p8) (cwI 7 hts gI_C_init rfl rfl rfl (hg (.initialized R_C) (by decide +kernel)) (hg (.methodLink R_S 80 y_C_init) (by decide +kernel)) (hg (.instanceMethod y_C_init) (by decide +kernel)) rfl (by decide +kernel) ⟨Nat.le_of_ble_eq_true rfl, Nat.le_of_ble_eq_true rfl⟩) h0 hw rfl hl.1 rfl (Nat.le_of_ble_eq_true rfl) d_S_certify_79 ⟨Nat.le_of_ble_eq_true rfl, Nat.le_of_ble_eq_true rfl⟩ (fun H locs hw => ?_)
        obtain ⟨hq_q_63, hw⟩ := z_into (w := w7 p2 p3 p4 p5 p6 p7 p8) hw
        have hm_q_63 : q_63 ∈ (sN st q_63 (w7 p2 p3 p4 p5 p6 p7 p8)).2.2.2.1 := z_inN
        have hI : InvC (sN st q_63 (w7 p2 p3 p4 p5 p6 p7 p8)) := inv_sN hI (by first | assumption | exact hI.2.2.2.1 | exact hI.2.2.2.2 | (unfold vp_in; decide) | exact Or.inr (by assumption) | exact cof_mem hI | (intro a h; cases h; assumption) | exact (hI.2.1 _ (by assumption)).1) (by first | assumption | exact hI.2.2.2.1 | exact hI.2.2.2.2 | (unfold vp_in; decide) | exact Or.inr (by assumption) | exact cof_mem hI | (intro a h; cases h; assumption) | exact (hI.2.1 _ (by assumption)).1)
        refine z_Vv0 (As := [.int p1, .ref q_63]) (ws1 := (wC ad G (f_give (sN st q_63 (w7 p2 p3 p4 p5 p6 p7 p8)) p1 q_63) ++ wr)) ⟨hx, hb, hml, hown, hts⟩ (c_S_give l G ad (sN st q_63 (w7 p2 p3 p4 p5 p6 p7 p8)) wr _ p1 q_63 (by first | assumption | exact hI.2.2.2.1 | exact hI.2.2.2.2 | (unfold vp_in; decide) | exact Or.inr (by assumption) | exact cof_mem hI | (intro a h; cases h; assumption) | exact (hI.2.1 _ (by assumption)).1) (by first | assumption | exact hI.2.2.2.1 | exact hI.2.2.2.2 | (unfold vp_in; decide) | exact Or.inr (by assumption) | exact cof_mem hI | (intro a h; cases h; assumption) | exact (hI.2.1 _ (by assumption)).1) (by first | assumption | exact hI.2.2.2.1 | exact hI.2.2.2.2 | (unfold vp_in; decide) | exact Or.inr (by assumption) | exact cof_mem hI | (intro a h; cases h; assumption) | exact (hI.2.1 _ (by assumption)).1)) (cwV 2 hts gV_S_83 rfl rfl rfl (by decide +kernel) ⟨Nat.le_of_ble_eq_true rfl, Nat.le_of_ble_eq_true rfl⟩) h0 hw 0 rfl rfl rfl rfl hl.1 rfl (Nat.le_of_ble_eq_true rfl) d_S_certify_82 ⟨Nat.le_of_ble_eq_true rfl, Nat.le_of_ble_eq_true rfl⟩ (fun H locs hw => ?_)
        have hI : InvC (f_give (sN st q_63 (w7 p2 p3 p4 p5 p6 p7 p8)) p1 q_63) := inv_f_give hI (by assumption)
        refine lv_iload hx hb d_S_certify_85 (lv_at hl 0 rfl) ?_
        refine lv_if_eq (tgt := 94) hx hb d_S_certify_87 (by decide) (fun c_87 => ?_) (fun c_87 => ?_)
        · exact absurd c_87 (by decide)
        · refine lv_iconst (v := 1) hx hb d_S_certify_90 (by decide) ?_
          refine lv_goto (tgt := 95) hx hb d_S_certify_91 (by decide) ?_
          exact vx_ret (z_iret (wf := fun u : CS => (wC ad G u ++ wr)) (u := (f_give (sN st q_63 (w7 p2 p3 p4 p5 p6 p7 p8)) p1 q_63)) hx hb hr hlocks h0 hw rfl ⟨q_63, hq_q_63, by rw [f_certify, hn_1, exo_none, if_neg c_17, if_neg c_29, hn_42, exo_none, e_51, oel_none]⟩ (Nat.le_of_ble_eq_true rfl) (Nat.le_of_ble_eq_true rfl) d_S_certify_95)
      · refine lv_iconst (v := 0) hx hb d_S_certify_58 (by decide) ?_
        refine lv_istore (lv' := [(9, .int 0), (0, .ref (ad 0)), (1, .int p1), (2, .int p2), (3, .int p3), (4, .int p4), (5, .int p5), (6, .int p6), (7, .int p7), (8, .int p8)]) hx hb d_S_certify_59 hl (by decide) rfl (fun ls hl => ?_)
        refine lv_aload_n hx hb d_S_certify_61 rfl (lv_at hl 1 rfl) ?_
        refine lv_iload_n hx hb d_S_certify_62 rfl (lv_at hl 2 rfl) ?_
        refine va_new (D := G.1) (ci := 0) (fs := [.int 0, .int 0, .int 0, .int 0, .int 0, .int 0, .int 0]) (C := R_C) (T := T_C) (N := 7) hx hb hts in_C ty_C ty_C_ok hown (hg (.classLink R_S 24 R_C) (by decide +kernel)) (hg (.instantiable R_C 7) (by decide +kernel)) (hg (.initialized R_C) (by decide +kernel)) h0.1 hw.1 hw.2.1 hw.2.2 (fun q h => Or.inr h) rfl (fun j hj => by rcases (show j = 0 ∨ j = 1 ∨ j = 2 ∨ j = 3 ∨ j = 4 ∨ j = 5 ∨ j = 6 by omega) with rfl | rfl | rfl | rfl | rfl | rfl | rfl <;> rfl) (Nat.le_of_ble_eq_true rfl) (Nat.le_of_ble_eq_true rfl) d_S_certify_63 (fun q_63 H hP hD hS => ?_)
        have hw := z_asc (G := G) (ws0 := (wC ad G st ++ wr)) (s := s) (a := wC ad G st) (b := wr) (c := [(q_63, .inr (0, [.int 0, .int 0, .int 0, .int 0, .int 0, .int 0, .int 0]))]) hP hD hS
        refine lv_dup hx hb d_S_certify_66 rfl ?_
        refine lv_iload_n hx hb d_S_certify_67 rfl (lv_at hl 3 rfl) ?_
        refine lv_iload_n hx hb d_S_certify_68 rfl (lv_at hl 4 rfl) ?_
        refine lv_iload hx hb d_S_certify_69 (lv_at hl 5 rfl) ?_
        refine lv_iload hx hb d_S_certify_71 (lv_at hl 6 rfl) ?_
        refine lv_iload hx hb d_S_certify_73 (lv_at hl 7 rfl) ?_
        refine lv_iload hx hb d_S_certify_75 (lv_at hl 8 rfl) ?_
        refine lv_iload hx hb d_S_certify_77 (lv_at hl 9 rfl) ?_
        have hw := z_csa hw
        refine z_Iv0 (As := [.int p2, .int p3, .int p4, .int p5, .int p6, .int p7, .int p8]) (ws1 := (wC ad G st ++ wr) ++ [(q_63, .inr (0, [.int p2, .int p3, .int p4, .int p5, .int p6, .int p7, .int p8]))]) ⟨hx, hb, hml, hown, hts⟩ (c_C_init l G (wC ad G st ++ wr) _ q_63 p2 p3 p4 p5 p6 p7 p8) (cwI 7 hts gI_C_init rfl rfl rfl (hg (.initialized R_C) (by decide +kernel)) (hg (.methodLink R_S 80 y_C_init) (by decide +kernel)) (hg (.instanceMethod y_C_init) (by decide +kernel)) rfl (by decide +kernel) ⟨Nat.le_of_ble_eq_true rfl, Nat.le_of_ble_eq_true rfl⟩) h0 hw rfl hl.1 rfl (Nat.le_of_ble_eq_true rfl) d_S_certify_79 ⟨Nat.le_of_ble_eq_true rfl, Nat.le_of_ble_eq_true rfl⟩ (fun H locs hw => ?_)
        obtain ⟨hq_q_63, hw⟩ := z_into (w := w7 p2 p3 p4 p5 p6 p7 p8) hw
        have hm_q_63 : q_63 ∈ (sN st q_63 (w7 p2 p3 p4 p5 p6 p7 p8)).2.2.2.1 := z_inN
        have hI : InvC (sN st q_63 (w7 p2 p3 p4 p5 p6 p7 p8)) := inv_sN hI (by first | assumption | exact hI.2.2.2.1 | exact hI.2.2.2.2 | (unfold vp_in; decide) | exact Or.inr (by assumption) | exact cof_mem hI | (intro a h; cases h; assumption) | exact (hI.2.1 _ (by assumption)).1) (by first | assumption | exact hI.2.2.2.1 | exact hI.2.2.2.2 | (unfold vp_in; decide) | exact Or.inr (by assumption) | exact cof_mem hI | (intro a h; cases h; assumption) | exact (hI.2.1 _ (by assumption)).1)
        refine z_Vv0 (As := [.int p1, .ref q_63]) (ws1 := (wC ad G (f_give (sN st q_63 (w7 p2 p3 p4 p5 p6 p7 p8)) p1 q_63) ++ wr)) ⟨hx, hb, hml, hown, hts⟩ (c_S_give l G ad (sN st q_63 (w7 p2 p3 p4 p5 p6 p7 p8)) wr _ p1 q_63 (by first | assumption | exact hI.2.2.2.1 | exact hI.2.2.2.2 | (unfold vp_in; decide) | exact Or.inr (by assumption) | exact cof_mem hI | (intro a h; cases h; assumption) | exact (hI.2.1 _ (by assumption)).1) (by first | assumption | exact hI.2.2.2.1 | exact hI.2.2.2.2 | (unfold vp_in; decide) | exact Or.inr (by assumption) | exact cof_mem hI | (intro a h; cases h; assumption) | exact (hI.2.1 _ (by assumption)).1) (by first | assumption | exact hI.2.2.2.1 | exact hI.2.2.2.2 | (unfold vp_in; decide) | exact Or.inr (by assumption) | exact cof_mem hI | (intro a h; cases h; assumption) | exact (hI.2.1 _ (by assumption)).1)) (cwV 2 hts gV_S_83 rfl rfl rfl (by decide +kernel) ⟨Nat.le_of_ble_eq_true rfl, Nat.le_of_ble_eq_true rfl⟩) h0 hw 0 rfl rfl rfl rfl hl.1 rfl (Nat.le_of_ble_eq_true rfl) d_S_certify_82 ⟨Nat.le_of_ble_eq_true rfl, Nat.le_of_ble_eq_true rfl⟩ (fun H locs hw => ?_)
        have hI : InvC (f_give (sN st q_63 (w7 p2 p3 p4 p5 p6 p7 p8)) p1 q_63) := inv_f_give hI (by assumption)
        refine lv_iload hx hb d_S_certify_85 (lv_at hl 0 rfl) ?_
        refine lv_if_eq (tgt := 94) hx hb d_S_certify_87 (by decide) (fun c_87 => ?_) (fun c_87 => ?_)
        · refine lv_iconst (v := 0) hx hb d_S_certify_94 (by decide) ?_
          exact vx_ret (z_iret (wf := fun u : CS => (wC ad G u ++ wr)) (u := (f_give (sN st q_63 (w7 p2 p3 p4 p5 p6 p7 p8)) p1 q_63)) hx hb hr hlocks h0 hw rfl ⟨q_63, hq_q_63, by rw [f_certify, hn_1, exo_none, if_neg c_17, if_neg c_29, hn_42, exo_none, e_51, oel_some]⟩ (Nat.le_of_ble_eq_true rfl) (Nat.le_of_ble_eq_true rfl) d_S_certify_95)
        · exact absurd (by decide) c_87
    · exact z_throw0 (cls := "java/lang/IllegalArgumentException") (ic := 56) hx hb hl9 hown (hg (.classLink R_S 54 "java/lang/IllegalArgumentException") (by decide +kernel)) (hg (.initialized "java/lang/IllegalArgumentException") (by decide +kernel)) (hat_S56 hts h0.2.1) (by decide +kernel) h0 hw (hl.1.trans hml.symm) d_S_certify_32 d_S_certify_35 d_S_certify_36 d_S_certify_39 hex (Nat.le_of_ble_eq_true rfl) (Nat.le_of_ble_eq_true rfl) (Nat.le_of_ble_eq_true rfl) (Nat.le_of_ble_eq_true rfl) hlocks (by intro q9; rw [f_certify, hn_1, exo_none, if_neg c_17, if_pos c_29]) (Nat.le_of_ble_eq_true rfl) (Nat.le_of_ble_eq_true rfl)
set_option maxHeartbeats 4000000 in
set_option maxRecDepth 100000 in
theorem c_S_finger (l : Launch) (hl9 : l.stackTraces = false) (G : gG) (ad : Nat → Nat) (st : CS) (wr : va_W) (sz : Nat) (p1 : Int32) (hI : InvC st) : vx_Met l y_S_finger w_S_finger { frames := 7, cells := 2, slots := 13, locals := 127 } (va_Pc [.ref (ad 0), .int p1] (z_pre G (wC ad G st ++ wr) sz)) (z_Qi G (wC ad G st ++ wr) sz (fun u : CS => (wC ad G u ++ wr)) (fun r u => ∃ q9, q9 ∉ st.2.2.2.1 ∧ f_finger st p1 q9 = .inr (r, u))) (z_X G (wC ad G st ++ wr) sz (fun E => ∀ q9, f_finger st p1 q9 = .inl E)) 2 13 (va_A (wC ad G st ++ wr) sz) := by
  refine vx_ofW (cc := b_S_finger) (maxL := 4) (ret := (some .int)) (by decide) rfl ?_
  intro p e s m args below meth c s₁ B hml hex hv
  obtain ⟨rfl, hsz, hP, hK, hD0, ham⟩ := hv
  subst hsz
  have hx := B.exec
  have hb := B.bytes
  have hr := B.returns
  have hts : ∀ w ∈ goT, w.before _ s = true := fun w h => atoms_spec (ws := w_S_finger) B.pre w (List.mem_cons_of_mem _ h)
  have hg : ∀ w, goB w = true → w.before _ s = true := fun w h => hts w (goI h)
  have hown : s.vm.findClass R_S = some m.cls := findClass_of_methodNamed B.named
  have hlocks := B.notSynchronized
  have h0 : z_st G (wC ad G st ++ wr) s := ⟨hK, ham⟩
  have hw : z_wl G (wC ad G st ++ wr) s (wC ad G st ++ wr) s.heap [] := z_0 hP hD0
  have hl := lv_entry ([.ref (ad 0), .int p1]) (n := 4) (Nat.le_of_ble_eq_true rfl)
  rw [lg_entry_eq]
  generalize (lg_sl ([.ref (ad 0), .int p1]) ++ List.replicate (4 - (lg_sl ([.ref (ad 0), .int p1])).length) Slot.unset).toArray = ls at hl ⊢
  have hl : lv_has ls 4 [(0, .ref (ad 0)), (1, .int p1)] := hl
  refine lv_aload_n hx hb d_S_finger_0 rfl (lv_at hl 0 rfl) ?_
  refine z_VXn (As := []) (P := fun E => (f_requireUp st) = some E) (N := (f_requireUp st) = none) ⟨hx, hb, hml, hown, hts⟩ (c_S_requireUp l hl9 G ad st wr _) (cwV 0 hts gV_S_108 rfl rfl rfl (by decide +kernel) ⟨Nat.le_of_ble_eq_true rfl, Nat.le_of_ble_eq_true rfl⟩) h0 hw 0 rfl rfl rfl rfl hl.1 rfl (Nat.le_of_ble_eq_true rfl) d_S_finger_1 ⟨Nat.le_of_ble_eq_true rfl, Nat.le_of_ble_eq_true rfl⟩ (fun E ce q9 H locs hE hw hce hcv hcl => z_out hex hlocks h0 hw hce hcv hcl (by intro q9; rw [f_finger, hE, exo_some]) (Nat.le_of_ble_eq_true rfl) (Nat.le_of_ble_eq_true rfl)) (fun H locs hn_1 hw => ?_)
  refine lv_aload_n hx hb d_S_finger_4 rfl (lv_at hl 0 rfl) ?_
  refine va_get (D := G.1) (ci := 2) (v := .int (st.1 6)) (C := R_S) (T := T_S) (N := 14) hx hb hts in_S hown h0.1 hw.1 0 rfl rfl 6 (by decide) (hg (.fieldLink R_S 37 "SecureEntry" "userState" "I") (by decide +kernel)) (fun _ h9 => h9) rfl d_S_finger_5 ?_
  refine lv_iconst (v := 1) hx hb d_S_finger_8 (by decide) ?_
  refine lv_icmp_eq (tgt := 20) hx hb d_S_finger_9 (by decide) (fun c_9 => ?_) (fun c_9 => ?_)
  · refine lv_iload_n hx hb d_S_finger_20 rfl (lv_at hl 1 rfl) ?_
    refine lv_iconst (v := 0) hx hb d_S_finger_21 (by decide) ?_
    refine lv_ldc hx hb hown (hg (.constant R_S 130 65535) (by decide +kernel)) d_S_finger_22 ?_
    refine z_Si0 (As := [.int p1, .int 0, .int 65535]) (v := (f_isWithin p1 0 65535)) ⟨hx, hb, hml, hown, hts⟩ (c_S_isWithin l G (wC ad G st ++ wr) _ p1 0 65535) (cwS 3 hts gS_S_69 rfl rfl rfl (by decide +kernel) ⟨Nat.le_of_ble_eq_true rfl, Nat.le_of_ble_eq_true rfl⟩) h0 hw rfl hl.1 rfl (Nat.le_of_ble_eq_true rfl) d_S_finger_24 ⟨Nat.le_of_ble_eq_true rfl, Nat.le_of_ble_eq_true rfl⟩ (fun H locs hw => ?_)
    refine lv_if_ne (tgt := 38) hx hb d_S_finger_27 (by decide) (fun c_27 => ?_) (fun c_27 => ?_)
    · refine lv_aload_n hx hb d_S_finger_38 rfl (lv_at hl 0 rfl) ?_
      refine lv_aload_n hx hb d_S_finger_39 rfl (lv_at hl 0 rfl) ?_
      refine va_get (D := G.1) (ci := 2) (v := .int (st.1 8)) (C := R_S) (T := T_S) (N := 14) hx hb hts in_S hown h0.1 hw.1 0 rfl rfl 8 (by decide) (hg (.fieldLink R_S 41 "SecureEntry" "outerToken" "I") (by decide +kernel)) (fun _ h9 => h9) rfl d_S_finger_40 ?_
      refine lv_iconst (v := 1) hx hb d_S_finger_43 (by decide) ?_
      refine z_Vq0 (As := [.int (st.1 8), .int 1]) (v := (f_certificateOf st (st.1 8) 1)) ⟨hx, hb, hml, hown, hts⟩ (c_S_certificateOf l G ad st wr _ (st.1 8) 1 (by first | assumption | exact hI.2.2.2.1 | exact hI.2.2.2.2 | (unfold vp_in; decide) | exact Or.inr (by assumption) | exact cof_mem hI | (intro a h; cases h; assumption) | exact (hI.2.1 _ (by assumption)).1) (by first | assumption | exact hI.2.2.2.1 | exact hI.2.2.2.2 | (unfold vp_in; decide) | exact Or.inr (by assumption) | exact cof_mem hI | (intro a h; cases h; assumption) | exact (hI.2.1 _ (by assumption)).1)) (cwV 2 hts gV_S_76 rfl rfl rfl (by decide +kernel) ⟨Nat.le_of_ble_eq_true rfl, Nat.le_of_ble_eq_true rfl⟩) h0 hw 0 rfl rfl rfl rfl hl.1 rfl (Nat.le_of_ble_eq_true rfl) d_S_finger_44 ⟨Nat.le_of_ble_eq_true rfl, Nat.le_of_ble_eq_true rfl⟩ (fun H locs hw => ?_)
      refine z_astore_n (r := (f_certificateOf st (st.1 8) 1)) (lv' := [(2, va_rf (f_certificateOf st (st.1 8) 1)), (0, .ref (ad 0)), (1, .int p1)]) hx hb d_S_finger_47 rfl hl (by decide) rfl (fun ls hl => ?_)
      refine lv_aload_n hx hb d_S_finger_48 rfl (lv_at hl 1 rfl) ?_
      refine lv_aload_n hx hb d_S_finger_49 rfl (lv_at hl 1 rfl) ?_
      refine va_get (D := G.1) (ci := 2) (v := .int (st.1 8)) (C := R_S) (T := T_S) (N := 14) hx hb hts in_S hown h0.1 hw.1 0 rfl rfl 8 (by decide) (hg (.fieldLink R_S 41 "SecureEntry" "outerToken" "I") (by decide +kernel)) (fun _ h9 => h9) rfl d_S_finger_50 ?_
      refine lv_iconst (v := 2) hx hb d_S_finger_53 (by decide) ?_
      refine z_Vq0 (As := [.int (st.1 8), .int 2]) (v := (f_certificateOf st (st.1 8) 2)) ⟨hx, hb, hml, hown, hts⟩ (c_S_certificateOf l G ad st wr _ (st.1 8) 2 (by first | assumption | exact hI.2.2.2.1 | exact hI.2.2.2.2 | (unfold vp_in; decide) | exact Or.inr (by assumption) | exact cof_mem hI | (intro a h; cases h; assumption) | exact (hI.2.1 _ (by assumption)).1) (by first | assumption | exact hI.2.2.2.1 | exact hI.2.2.2.2 | (unfold vp_in; decide) | exact Or.inr (by assumption) | exact cof_mem hI | (intro a h; cases h; assumption) | exact (hI.2.1 _ (by assumption)).1)) (cwV 2 hts gV_S_76 rfl rfl rfl (by decide +kernel) ⟨Nat.le_of_ble_eq_true rfl, Nat.le_of_ble_eq_true rfl⟩) h0 hw 0 rfl rfl rfl rfl hl.1 rfl (Nat.le_of_ble_eq_true rfl) d_S_finger_54 ⟨Nat.le_of_ble_eq_true rfl, Nat.le_of_ble_eq_true rfl⟩ (fun H locs hw => ?_)
      refine z_astore_n (r := (f_certificateOf st (st.1 8) 2)) (lv' := [(3, va_rf (f_certificateOf st (st.1 8) 2)), (2, va_rf (f_certificateOf st (st.1 8) 1)), (0, .ref (ad 0)), (1, .int p1)]) (i := 3) hx hb d_S_finger_57 rfl hl (by decide) (by simp [z_cat]) (fun ls hl => ?_)
      refine z_aload_n (r := (f_certificateOf st (st.1 8) 1)) hx hb d_S_finger_58 rfl (lv_at hl 1 rfl) ?_
      refine z_ifnull (r := (f_certificateOf st (st.1 8) 1)) (tgt := 107) hx hb d_S_finger_59 (by decide) (fun e_59 => ?_) (fun a_59 e_59 => ?_)
      · have hl : lv_has ls 4 [(3, va_rf (f_certificateOf st (st.1 8) 2)), (2, .null), (0, .ref (ad 0)), (1, .int p1)] := by rw [e_59] at hl; exact hl
        refine lv_aload_n hx hb d_S_finger_107 rfl (lv_at hl 2 rfl) ?_
        refine lv_iconst (v := 5) hx hb d_S_finger_108 (by decide) ?_
        refine z_Vv0 (As := [.int 5]) (ws1 := (wC ad G (f_turnAway st 5) ++ wr)) ⟨hx, hb, hml, hown, hts⟩ (c_S_turnAway l G ad st wr _ 5 (by first | assumption | exact hI.2.2.2.1 | exact hI.2.2.2.2 | (unfold vp_in; decide) | exact Or.inr (by assumption) | exact cof_mem hI | (intro a h; cases h; assumption) | exact (hI.2.1 _ (by assumption)).1)) (cwV 1 hts gV_S_127 rfl rfl rfl (by decide +kernel) ⟨Nat.le_of_ble_eq_true rfl, Nat.le_of_ble_eq_true rfl⟩) h0 hw 0 rfl rfl rfl rfl hl.1 rfl (Nat.le_of_ble_eq_true rfl) d_S_finger_109 ⟨Nat.le_of_ble_eq_true rfl, Nat.le_of_ble_eq_true rfl⟩ (fun H locs hw => ?_)
        have hI : InvC (f_turnAway st 5) := inv_f_turnAway hI
        refine lv_aload_n hx hb d_S_finger_112 rfl (lv_at hl 2 rfl) ?_
        refine va_get (D := G.1) (ci := 2) (v := .int ((f_turnAway st 5).1 6)) (C := R_S) (T := T_S) (N := 14) hx hb hts in_S hown h0.1 hw.1 0 rfl rfl 6 (by decide) (hg (.fieldLink R_S 37 "SecureEntry" "userState" "I") (by decide +kernel)) (fun _ h9 => h9) rfl d_S_finger_113 ?_
        exact vx_ret (z_iret (wf := fun u : CS => (wC ad G u ++ wr)) (u := (f_turnAway st 5)) hx hb hr hlocks h0 hw rfl (let ⟨q9, hq9⟩ := z_fresh st.2.2.2.1; ⟨q9, hq9, by rw [f_finger, hn_1, exo_none, if_pos c_9, if_neg c_27, e_59, oel_none]⟩) (Nat.le_of_ble_eq_true rfl) (Nat.le_of_ble_eq_true rfl) d_S_finger_116)
      · have hl : lv_has ls 4 [(3, va_rf (f_certificateOf st (st.1 8) 2)), (2, .ref a_59), (0, .ref (ad 0)), (1, .int p1)] := by rw [e_59] at hl; exact hl
        have hm_a_59 : a_59 ∈ st.2.2.2.1 := cof_mem hI _ e_59
        refine z_aload_n (r := (f_certificateOf st (st.1 8) 2)) hx hb d_S_finger_62 rfl (lv_at hl 0 rfl) ?_
        refine z_ifnull (r := (f_certificateOf st (st.1 8) 2)) (tgt := 107) hx hb d_S_finger_63 (by decide) (fun e_63 => ?_) (fun a_63 e_63 => ?_)
        · have hl : lv_has ls 4 [(3, .null), (2, .ref a_59), (0, .ref (ad 0)), (1, .int p1)] := by rw [e_63] at hl; exact hl
          refine lv_aload_n hx hb d_S_finger_107 rfl (lv_at hl 2 rfl) ?_
          refine lv_iconst (v := 5) hx hb d_S_finger_108 (by decide) ?_
          refine z_Vv0 (As := [.int 5]) (ws1 := (wC ad G (f_turnAway st 5) ++ wr)) ⟨hx, hb, hml, hown, hts⟩ (c_S_turnAway l G ad st wr _ 5 (by first | assumption | exact hI.2.2.2.1 | exact hI.2.2.2.2 | (unfold vp_in; decide) | exact Or.inr (by assumption) | exact cof_mem hI | (intro a h; cases h; assumption) | exact (hI.2.1 _ (by assumption)).1)) (cwV 1 hts gV_S_127 rfl rfl rfl (by decide +kernel) ⟨Nat.le_of_ble_eq_true rfl, Nat.le_of_ble_eq_true rfl⟩) h0 hw 0 rfl rfl rfl rfl hl.1 rfl (Nat.le_of_ble_eq_true rfl) d_S_finger_109 ⟨Nat.le_of_ble_eq_true rfl, Nat.le_of_ble_eq_true rfl⟩ (fun H locs hw => ?_)
          have hI : InvC (f_turnAway st 5) := inv_f_turnAway hI
          refine lv_aload_n hx hb d_S_finger_112 rfl (lv_at hl 2 rfl) ?_
          refine va_get (D := G.1) (ci := 2) (v := .int ((f_turnAway st 5).1 6)) (C := R_S) (T := T_S) (N := 14) hx hb hts in_S hown h0.1 hw.1 0 rfl rfl 6 (by decide) (hg (.fieldLink R_S 37 "SecureEntry" "userState" "I") (by decide +kernel)) (fun _ h9 => h9) rfl d_S_finger_113 ?_
          exact vx_ret (z_iret (wf := fun u : CS => (wC ad G u ++ wr)) (u := (f_turnAway st 5)) hx hb hr hlocks h0 hw rfl (let ⟨q9, hq9⟩ := z_fresh st.2.2.2.1; ⟨q9, hq9, by rw [f_finger, hn_1, exo_none, if_pos c_9, if_neg c_27, e_59, oel_some, e_63, oel_none]⟩) (Nat.le_of_ble_eq_true rfl) (Nat.le_of_ble_eq_true rfl) d_S_finger_116)
        · have hl : lv_has ls 4 [(3, .ref a_63), (2, .ref a_59), (0, .ref (ad 0)), (1, .int p1)] := by rw [e_63] at hl; exact hl
          have hm_a_63 : a_63 ∈ st.2.2.2.1 := cof_mem hI _ e_63
          have hp8 : vp_in (st.1 8) 6 := cof_tok hI e_59
          refine lv_aload_n hx hb d_S_finger_66 rfl (lv_at hl 2 rfl) ?_
          refine lv_iload_n hx hb d_S_finger_67 rfl (lv_at hl 3 rfl) ?_
          refine lv_aload_n hx hb d_S_finger_68 rfl (lv_at hl 0 rfl) ?_
          obtain ⟨k_69, hk_69⟩ := z_pool (ad := ad) (G := G) (wr := wr) (st := st) hm_a_63
          refine va_get (D := G.1) (ci := 0) (v := .int (st.2.2.2.2 a_63 3)) (C := R_C) (T := T_C) (N := 7) hx hb hts in_C hown h0.1 hw.1 k_69 hk_69 rfl 3 (by decide) (hg (.fieldLink R_S 131 "SecureEntry$Certificate" "value" "I") (by decide +kernel)) (fun _ h9 => h9) rfl d_S_finger_69 ?_
          refine z_Vi0 (As := [.int p1, .int (st.2.2.2.2 a_63 3)]) (v := (f_matches st p1 (st.2.2.2.2 a_63 3))) ⟨hx, hb, hml, hown, hts⟩ (c_S_matches l G ad st wr _ p1 (st.2.2.2.2 a_63 3)) (cwV 2 hts gV_S_134 rfl rfl rfl (by decide +kernel) ⟨Nat.le_of_ble_eq_true rfl, Nat.le_of_ble_eq_true rfl⟩) h0 hw 0 rfl rfl rfl rfl hl.1 rfl (Nat.le_of_ble_eq_true rfl) d_S_finger_72 ⟨Nat.le_of_ble_eq_true rfl, Nat.le_of_ble_eq_true rfl⟩ (fun H locs hw => ?_)
          refine lv_if_eq (tgt := 107) hx hb d_S_finger_75 (by decide) (fun c_75 => ?_) (fun c_75 => ?_)
          · refine lv_aload_n hx hb d_S_finger_107 rfl (lv_at hl 2 rfl) ?_
            refine lv_iconst (v := 5) hx hb d_S_finger_108 (by decide) ?_
            refine z_Vv0 (As := [.int 5]) (ws1 := (wC ad G (f_turnAway st 5) ++ wr)) ⟨hx, hb, hml, hown, hts⟩ (c_S_turnAway l G ad st wr _ 5 (by first | assumption | exact hI.2.2.2.1 | exact hI.2.2.2.2 | (unfold vp_in; decide) | exact Or.inr (by assumption) | exact cof_mem hI | (intro a h; cases h; assumption) | exact (hI.2.1 _ (by assumption)).1)) (cwV 1 hts gV_S_127 rfl rfl rfl (by decide +kernel) ⟨Nat.le_of_ble_eq_true rfl, Nat.le_of_ble_eq_true rfl⟩) h0 hw 0 rfl rfl rfl rfl hl.1 rfl (Nat.le_of_ble_eq_true rfl) d_S_finger_109 ⟨Nat.le_of_ble_eq_true rfl, Nat.le_of_ble_eq_true rfl⟩ (fun H locs hw => ?_)
            have hI : InvC (f_turnAway st 5) := inv_f_turnAway hI
            refine lv_aload_n hx hb d_S_finger_112 rfl (lv_at hl 2 rfl) ?_
            refine va_get (D := G.1) (ci := 2) (v := .int ((f_turnAway st 5).1 6)) (C := R_S) (T := T_S) (N := 14) hx hb hts in_S hown h0.1 hw.1 0 rfl rfl 6 (by decide) (hg (.fieldLink R_S 37 "SecureEntry" "userState" "I") (by decide +kernel)) (fun _ h9 => h9) rfl d_S_finger_113 ?_
            exact vx_ret (z_iret (wf := fun u : CS => (wC ad G u ++ wr)) (u := (f_turnAway st 5)) hx hb hr hlocks h0 hw rfl (let ⟨q9, hq9⟩ := z_fresh st.2.2.2.1; ⟨q9, hq9, by rw [f_finger, hn_1, exo_none, if_pos c_9, if_neg c_27, e_59, oel_some, e_63, oel_some, if_pos c_75]⟩) (Nat.le_of_ble_eq_true rfl) (Nat.le_of_ble_eq_true rfl) d_S_finger_116)
          · refine lv_aload_n hx hb d_S_finger_78 rfl (lv_at hl 2 rfl) ?_
            refine lv_aload_n hx hb d_S_finger_79 rfl (lv_at hl 2 rfl) ?_
            refine va_get (D := G.1) (ci := 2) (v := .int (st.1 8)) (C := R_S) (T := T_S) (N := 14) hx hb hts in_S hown h0.1 hw.1 0 rfl rfl 8 (by decide) (hg (.fieldLink R_S 41 "SecureEntry" "outerToken" "I") (by decide +kernel)) (fun _ h9 => h9) rfl d_S_finger_80 ?_
            refine lv_aload_n hx hb d_S_finger_83 rfl (lv_at hl 2 rfl) ?_
            refine lv_aload_n hx hb d_S_finger_84 rfl (lv_at hl 1 rfl) ?_
            refine z_Vq (As := [.ref a_59]) ⟨hx, hb, hml, hown, hts⟩ (c_S_authorisationBy l G ad st wr _ a_59 (by first | assumption | exact hI.2.2.2.1 | exact hI.2.2.2.2 | (unfold vp_in; decide) | exact Or.inr (by assumption) | exact cof_mem hI | (intro a h; cases h; assumption) | exact (hI.2.1 _ (by assumption)).1)) (cwV 1 hts gV_S_138 rfl rfl rfl (by decide +kernel) ⟨Nat.le_of_ble_eq_true rfl, Nat.le_of_ble_eq_true rfl⟩) h0 hw 0 rfl rfl rfl rfl hl.1 rfl (Nat.le_of_ble_eq_true rfl) d_S_finger_85 ⟨Nat.le_of_ble_eq_true rfl, Nat.le_of_ble_eq_true rfl⟩ (fun r_85 q_85 H locs hp hw => ?_)
            obtain ⟨rfl, hq_q_85⟩ := hp
            have hw : z_wl G (wC ad G st ++ wr) s (wC ad G (sN st q_85 (f_authorisationBy st a_59)) ++ wr) H locs := hw
            have hm_q_85 : q_85 ∈ (sN st q_85 (f_authorisationBy st a_59)).2.2.2.1 := z_inN
            have hI : InvC (sN st q_85 (f_authorisationBy st a_59)) := inv_sN hI (show vp_in 6 7 by unfold vp_in; decide) (show vp_in 3 4 by unfold vp_in; decide)
            refine z_Vv0 (As := [.int (st.1 8), .ref q_85]) (ws1 := (wC ad G (f_give (sN st q_85 (f_authorisationBy st a_59)) (st.1 8) q_85) ++ wr)) ⟨hx, hb, hml, hown, hts⟩ (c_S_give l G ad (sN st q_85 (f_authorisationBy st a_59)) wr _ (st.1 8) q_85 (by first | assumption | exact hI.2.2.2.1 | exact hI.2.2.2.2 | (unfold vp_in; decide) | exact Or.inr (by assumption) | exact cof_mem hI | (intro a h; cases h; assumption) | exact (hI.2.1 _ (by assumption)).1) (by first | assumption | exact hI.2.2.2.1 | exact hI.2.2.2.2 | (unfold vp_in; decide) | exact Or.inr (by assumption) | exact cof_mem hI | (intro a h; cases h; assumption) | exact (hI.2.1 _ (by assumption)).1) (by first | assumption | exact hI.2.2.2.1 | exact hI.2.2.2.2 | (unfold vp_in; decide) | exact Or.inr (by assumption) | exact cof_mem hI | (intro a h; cases h; assumption) | exact (hI.2.1 _ (by assumption)).1)) (cwV 2 hts gV_S_83 rfl rfl rfl (by decide +kernel) ⟨Nat.le_of_ble_eq_true rfl, Nat.le_of_ble_eq_true rfl⟩) h0 hw 0 rfl rfl rfl rfl hl.1 rfl (Nat.le_of_ble_eq_true rfl) d_S_finger_88 ⟨Nat.le_of_ble_eq_true rfl, Nat.le_of_ble_eq_true rfl⟩ (fun H locs hw => ?_)
            have hI : InvC (f_give (sN st q_85 (f_authorisationBy st a_59)) (st.1 8) q_85) := inv_f_give hI (by assumption)
            refine lv_aload_n hx hb d_S_finger_91 rfl (lv_at hl 2 rfl) ?_
            refine lv_aload_n hx hb d_S_finger_92 rfl (lv_at hl 2 rfl) ?_
            refine va_get (D := G.1) (ci := 2) (v := .int ((f_give (sN st q_85 (f_authorisationBy st a_59)) (st.1 8) q_85).1 8)) (C := R_S) (T := T_S) (N := 14) hx hb hts in_S hown h0.1 hw.1 0 rfl rfl 8 (by decide) (hg (.fieldLink R_S 41 "SecureEntry" "outerToken" "I") (by decide +kernel)) (fun _ h9 => h9) rfl d_S_finger_93 ?_
            refine lv_iconst (v := 4) hx hb d_S_finger_96 (by decide) ?_
            refine z_Vv0 (As := [.int ((f_give (sN st q_85 (f_authorisationBy st a_59)) (st.1 8) q_85).1 8), .int 4]) (ws1 := (wC ad G (f_writeAbout (f_give (sN st q_85 (f_authorisationBy st a_59)) (st.1 8) q_85) ((f_give (sN st q_85 (f_authorisationBy st a_59)) (st.1 8) q_85).1 8) 4) ++ wr)) ⟨hx, hb, hml, hown, hts⟩ (c_S_writeAbout l G ad (f_give (sN st q_85 (f_authorisationBy st a_59)) (st.1 8) q_85) wr _ ((f_give (sN st q_85 (f_authorisationBy st a_59)) (st.1 8) q_85).1 8) 4 (by first | assumption | exact hI.2.2.2.1 | exact hI.2.2.2.2 | (unfold vp_in; decide) | exact Or.inr (by assumption) | exact cof_mem hI | (intro a h; cases h; assumption) | exact (hI.2.1 _ (by assumption)).1) (by first | assumption | exact hI.2.2.2.1 | exact hI.2.2.2.2 | (unfold vp_in; decide) | exact Or.inr (by assumption) | exact cof_mem hI | (intro a h; cases h; assumption) | exact (hI.2.1 _ (by assumption)).1)) (cwV 2 hts gV_S_114 rfl rfl rfl (by decide +kernel) ⟨Nat.le_of_ble_eq_true rfl, Nat.le_of_ble_eq_true rfl⟩) h0 hw 0 rfl rfl rfl rfl hl.1 rfl (Nat.le_of_ble_eq_true rfl) d_S_finger_97 ⟨Nat.le_of_ble_eq_true rfl, Nat.le_of_ble_eq_true rfl⟩ (fun H locs hw => ?_)
            have hI : InvC (f_writeAbout (f_give (sN st q_85 (f_authorisationBy st a_59)) (st.1 8) q_85) ((f_give (sN st q_85 (f_authorisationBy st a_59)) (st.1 8) q_85).1 8) 4) := inv_f_writeAbout hI
            refine lv_aload_n hx hb d_S_finger_100 rfl (lv_at hl 2 rfl) ?_
            refine z_Vv0 (As := []) (ws1 := (wC ad G (f_allowEntry (f_writeAbout (f_give (sN st q_85 (f_authorisationBy st a_59)) (st.1 8) q_85) ((f_give (sN st q_85 (f_authorisationBy st a_59)) (st.1 8) q_85).1 8) 4)) ++ wr)) ⟨hx, hb, hml, hown, hts⟩ (c_S_allowEntry l G ad (f_writeAbout (f_give (sN st q_85 (f_authorisationBy st a_59)) (st.1 8) q_85) ((f_give (sN st q_85 (f_authorisationBy st a_59)) (st.1 8) q_85).1 8) 4) wr _  (by first | assumption | exact hI.2.2.2.1 | exact hI.2.2.2.2 | (unfold vp_in; decide) | exact Or.inr (by assumption) | exact cof_mem hI | (intro a h; cases h; assumption) | exact (hI.2.1 _ (by assumption)).1)) (cwV 0 hts gV_S_121 rfl rfl rfl (by decide +kernel) ⟨Nat.le_of_ble_eq_true rfl, Nat.le_of_ble_eq_true rfl⟩) h0 hw 0 rfl rfl rfl rfl hl.1 rfl (Nat.le_of_ble_eq_true rfl) d_S_finger_101 ⟨Nat.le_of_ble_eq_true rfl, Nat.le_of_ble_eq_true rfl⟩ (fun H locs hw => ?_)
            have hI : InvC (f_allowEntry (f_writeAbout (f_give (sN st q_85 (f_authorisationBy st a_59)) (st.1 8) q_85) ((f_give (sN st q_85 (f_authorisationBy st a_59)) (st.1 8) q_85).1 8) 4)) := inv_f_allowEntry hI
            refine lv_goto (tgt := 112) hx hb d_S_finger_104 (by decide) ?_
            refine lv_aload_n hx hb d_S_finger_112 rfl (lv_at hl 2 rfl) ?_
            refine va_get (D := G.1) (ci := 2) (v := .int ((f_allowEntry (f_writeAbout (f_give (sN st q_85 (f_authorisationBy st a_59)) (st.1 8) q_85) ((f_give (sN st q_85 (f_authorisationBy st a_59)) (st.1 8) q_85).1 8) 4)).1 6)) (C := R_S) (T := T_S) (N := 14) hx hb hts in_S hown h0.1 hw.1 0 rfl rfl 6 (by decide) (hg (.fieldLink R_S 37 "SecureEntry" "userState" "I") (by decide +kernel)) (fun _ h9 => h9) rfl d_S_finger_113 ?_
            exact vx_ret (z_iret (wf := fun u : CS => (wC ad G u ++ wr)) (u := (f_allowEntry (f_writeAbout (f_give (sN st q_85 (f_authorisationBy st a_59)) (st.1 8) q_85) ((f_give (sN st q_85 (f_authorisationBy st a_59)) (st.1 8) q_85).1 8) 4))) hx hb hr hlocks h0 hw rfl ⟨q_85, hq_q_85, by rw [f_finger, hn_1, exo_none, if_pos c_9, if_neg c_27, e_59, oel_some, e_63, oel_some, if_neg c_75]⟩ (Nat.le_of_ble_eq_true rfl) (Nat.le_of_ble_eq_true rfl) d_S_finger_116)
    · exact z_throw0 (cls := "java/lang/IllegalArgumentException") (ic := 56) hx hb hl9 hown (hg (.classLink R_S 54 "java/lang/IllegalArgumentException") (by decide +kernel)) (hg (.initialized "java/lang/IllegalArgumentException") (by decide +kernel)) (hat_S56 hts h0.2.1) (by decide +kernel) h0 hw (hl.1.trans hml.symm) d_S_finger_30 d_S_finger_33 d_S_finger_34 d_S_finger_37 hex (Nat.le_of_ble_eq_true rfl) (Nat.le_of_ble_eq_true rfl) (Nat.le_of_ble_eq_true rfl) (Nat.le_of_ble_eq_true rfl) hlocks (by intro q9; rw [f_finger, hn_1, exo_none, if_pos c_9, if_pos c_27]) (Nat.le_of_ble_eq_true rfl) (Nat.le_of_ble_eq_true rfl)
  · exact z_throw0 (cls := "java/lang/IllegalStateException") (ic := 93) hx hb hl9 hown (hg (.classLink R_S 91 "java/lang/IllegalStateException") (by decide +kernel)) (hg (.initialized "java/lang/IllegalStateException") (by decide +kernel)) (hat_S93 hts h0.2.1) (by decide +kernel) h0 hw (hl.1.trans hml.symm) d_S_finger_12 d_S_finger_15 d_S_finger_16 d_S_finger_19 hex (Nat.le_of_ble_eq_true rfl) (Nat.le_of_ble_eq_true rfl) (Nat.le_of_ble_eq_true rfl) (Nat.le_of_ble_eq_true rfl) hlocks (by intro q9; rw [f_finger, hn_1, exo_none, if_neg c_9]) (Nat.le_of_ble_eq_true rfl) (Nat.le_of_ble_eq_true rfl)
end CON
end
section
section LD
def f_enr (st : CS) : Nat → Int32
  | 0 => 0
  | n + 1 => if f_isEnrolled st (nI n) = 0 then f_enr st n else f_enr st n + 1
def f_enrolledIssuers (st : CS) : Int32 := f_enr st 6
def f_start (st : CS)  : String ⊕ (Int32 × CS) := (if (st.1 5) = 0 then (if (f_enrolledIssuers st) = 0 then .inl "java/lang/IllegalStateException" else (if (st.1 8) = (-1) then (if (st.1 9) = (-1) then .inr ((f_enrolledIssuers st), (f_write (sS (f_becomeUserState (sS st 5 1) 0) 10 0) 1 ((f_becomeUserState (sS st 5 1) 0).1 4) (-1))) else .inl "java/lang/IllegalStateException") else .inl "java/lang/IllegalStateException")) else .inl "java/lang/IllegalStateException")
def f_sec (st : CS) : CS := f_endAdministrationInTime (f_endWaitingInTime (sS st 4 ((st.1 4) + 1)))
def f_secs (st : CS) : Nat → CS
  | 0 => st
  | n + 1 => f_sec (f_secs st n)
def f_pass (st : CS) (p1 : Int32) : String ⊕ (Int32 × CS) := (if (f_isWithin p1 1 1000) = 0 then .inl "java/lang/IllegalArgumentException" else (if p1 ≤ (100000 - (st.1 4)) then .inr (((f_secs st p1.toNatClampNeg).1 4), f_secs st p1.toNatClampNeg) else .inl "java/lang/IllegalArgumentException"))
theorem inv_f_sec {st : CS} (h : InvC st) : InvC (f_sec st) := inv_f_endAdministrationInTime (inv_f_endWaitingInTime (inv_sS h (by decide)))
theorem inv_f_secs {st : CS} (h : InvC st) : ∀ n, InvC (f_secs st n)
  | 0 => h
  | n + 1 => inv_f_sec (inv_f_secs h n)
theorem win_1 {x hi : Int32} (h : ¬ f_isWithin x 1 hi = 0) : ∃ j : Nat, j < 2 ^ 31 ∧ x = nI j := by
  unfold f_isWithin at h
  by_cases h1 : x < 1
  · rw [if_pos h1] at h; exact absurd rfl h
  · refine nI_of (fun h2 => h1 ?_)
    rw [Int32.lt_iff_toInt_lt] at h2 ⊢
    rw [Int32.toInt_zero] at h2
    rw [show (1 : Int32).toInt = 1 by decide]
    omega
end LD
end
section
section LC
set_option maxHeartbeats 4000000 in
set_option maxRecDepth 100000 in
theorem c_S_enrolledIssuers (l : Launch) (G : gG) (ad : Nat → Nat) (st : CS) (wr : va_W) (sz : Nat) : Met l y_S_enrolledIssuers w_S_enrolledIssuers { frames := 1, cells := 0, slots := 0, locals := 21 } (va_Pc [.ref (ad 0)] (z_pre G (wC ad G st ++ wr) sz)) (z_Qi0 G (wC ad G st ++ wr) sz (wC ad G st ++ wr) (f_enrolledIssuers st)) 0 0 (va_A (wC ad G st ++ wr) sz) := by
  refine Met.ofW (cc := b_S_enrolledIssuers) (maxL := 3) (ret := (some .int)) (by decide) rfl ?_
  intro p e s m args below meth c s₁ B hml hv
  obtain ⟨rfl, hsz, hP, hK, hD0, ham⟩ := hv
  subst hsz
  have hx := B.exec
  have hb := B.bytes
  have hr := B.returns
  have hts : ∀ w ∈ goT, w.before _ s = true := fun w h => atoms_spec (ws := w_S_enrolledIssuers) B.pre w (List.mem_cons_of_mem _ h)
  have hg : ∀ w, goB w = true → w.before _ s = true := fun w h => hts w (goI h)
  have hown : s.vm.findClass R_S = some m.cls := findClass_of_methodNamed B.named
  have hlocks := B.notSynchronized
  have h0 : z_st G (wC ad G st ++ wr) s := ⟨hK, ham⟩
  have hw : z_wl G (wC ad G st ++ wr) s (wC ad G st ++ wr) s.heap [] := z_0 hP hD0
  have hl := lv_entry ([.ref (ad 0)]) (n := 3) (Nat.le_of_ble_eq_true rfl)
  rw [lg_entry_eq]
  generalize (lg_sl ([.ref (ad 0)]) ++ List.replicate (3 - (lg_sl ([.ref (ad 0)])).length) Slot.unset).toArray = ls at hl ⊢
  have hl : lv_has ls 3 [(0, .ref (ad 0))] := hl
  have loop : ∀ (n i : Nat), i ≤ 6 → 7 ≤ i + n → ∀ (H : Heap) (locs : List Loc), z_wl G (wC ad G st ++ wr) s (wC ad G st ++ wr) H locs → ∀ (ls : Array Slot), lv_has ls 3 [(2, .int (nI i)), (1, .int (f_enr st i)), (0, .ref (ad 0))] → W p l e (headSpec w_S_enrolledIssuers { frames := 1, cells := 0, slots := 0, locals := 21 }).room s m #[.ref (ad 0)] below meth c H locs 0 0 (MQ below (z_Qi0 G (wC ad G st ++ wr) s.heap.size (wC ad G st ++ wr) (f_enrolledIssuers st)) #[.ref (ad 0)] s 0 0 (va_A (wC ad G st ++ wr) s.heap.size)) (F0 m 4 ls []) := by
    intro n
    induction n with
    | zero => intro i h1 h2; exact absurd h2 (by omega)
    | succ n ih =>
      intro i h1 h2 H locs hw ls hl
      refine lv_iload_n hx hb d_S_enrolledIssuers_4 rfl (lv_at hl 0 rfl) ?_
      refine lv_bipush (v := 6) hx hb d_S_enrolledIssuers_5 (by decide) ?_
      refine lv_icmp_ge (tgt := 27) hx hb d_S_enrolledIssuers_7 (by decide) (fun c_7 => ?_) (fun c_7 => ?_)
      · have hi : i = 6 := Nat.le_antisymm h1 ((nI_leI (by decide) (by omega)).mp c_7)
        refine lv_iload_n hx hb d_S_enrolledIssuers_27 rfl (lv_at hl 1 rfl) ?_
        exact z_iret (wf := fun _ : Unit => (wC ad G st ++ wr)) (post := fun r _ => r = f_enrolledIssuers st) (u := ()) hx hb hr hlocks h0 hw rfl (by rw [f_enrolledIssuers, hi]) (Nat.le_of_ble_eq_true rfl) (Nat.le_of_ble_eq_true rfl) d_S_enrolledIssuers_28
      · have hi : i < 6 := (nI_ltI (by omega) (by decide)).mp (Int32.not_le.mp c_7)
        refine lv_aload_n hx hb d_S_enrolledIssuers_10 rfl (lv_at hl 2 rfl) ?_
        refine lv_iload_n hx hb d_S_enrolledIssuers_11 rfl (lv_at hl 0 rfl) ?_
        refine z_Vi0 (As := [.int (nI i)]) (v := (f_isEnrolled st (nI i))) ⟨hx, hb, hml, hown, hts⟩ (c_S_isEnrolled l G ad st wr _ (nI i) (vp_in_nI (by omega) (by decide))) (cwV 1 hts gV_S_57 rfl rfl rfl (by decide +kernel) ⟨Nat.le_of_ble_eq_true rfl, Nat.le_of_ble_eq_true rfl⟩) h0 hw 0 rfl rfl rfl rfl hl.1 rfl (Nat.le_of_ble_eq_true rfl) d_S_enrolledIssuers_12 ⟨Nat.le_of_ble_eq_true rfl, Nat.le_of_ble_eq_true rfl⟩ (fun H locs hw => ?_)
        refine lv_if_eq (tgt := 21) hx hb d_S_enrolledIssuers_15 (by decide) (fun c_15 => ?_) (fun c_15 => ?_)
        · refine lv_iinc (v := ((nI i) + 1)) (lv' := [(2, .int ((nI i) + 1)), (1, .int (f_enr st i)), (0, .ref (ad 0))]) hx hb d_S_enrolledIssuers_21 hl (k := 0) rfl rfl (by decide) rfl (fun ls hl => ?_)
          refine lv_goto (tgt := 4) hx hb d_S_enrolledIssuers_24 (by decide) ?_
          have hl := lv_sub hl [0, 1, 2] rfl
          exact ih (i + 1) (by omega) (by omega) H locs hw ls (by rw [f_enr, if_pos c_15, ← nI_1]; exact hl)
        · refine lv_iinc (v := ((f_enr st i) + 1)) (lv' := [(1, .int ((f_enr st i) + 1)), (2, .int (nI i)), (0, .ref (ad 0))]) hx hb d_S_enrolledIssuers_18 hl (k := 1) rfl rfl (by decide) rfl (fun ls hl => ?_)
          refine lv_iinc (v := ((nI i) + 1)) (lv' := [(2, .int ((nI i) + 1)), (1, .int ((f_enr st i) + 1)), (0, .ref (ad 0))]) hx hb d_S_enrolledIssuers_21 hl (k := 1) rfl rfl (by decide) rfl (fun ls hl => ?_)
          refine lv_goto (tgt := 4) hx hb d_S_enrolledIssuers_24 (by decide) ?_
          have hl := lv_sub hl [0, 1, 2] rfl
          exact ih (i + 1) (by omega) (by omega) H locs hw ls (by rw [f_enr, if_neg c_15, ← nI_1]; exact hl)
  refine lv_iconst (v := 0) hx hb d_S_enrolledIssuers_0 (by decide) ?_
  refine lv_istore_n (lv' := [(1, .int 0), (0, .ref (ad 0))]) hx hb d_S_enrolledIssuers_1 rfl hl (by decide) rfl (fun ls hl => ?_)
  refine lv_iconst (v := 0) hx hb d_S_enrolledIssuers_2 (by decide) ?_
  refine lv_istore_n (lv' := [(2, .int 0), (1, .int 0), (0, .ref (ad 0))]) hx hb d_S_enrolledIssuers_3 rfl hl (by decide) rfl (fun ls hl => ?_)
  exact loop 7 0 (by decide) (by decide) _ _ hw ls hl
set_option maxHeartbeats 4000000 in
set_option maxRecDepth 100000 in
theorem c_S_start (l : Launch) (hl9 : l.stackTraces = false) (G : gG) (ad : Nat → Nat) (st : CS) (wr : va_W) (sz : Nat)  (hI : InvC st) : vx_Met l y_S_start w_S_start { frames := 6, cells := 1, slots := 6, locals := 83 } (va_Pc [.ref (ad 0)] (z_pre G (wC ad G st ++ wr) sz)) (z_Qi G (wC ad G st ++ wr) sz (fun u : CS => (wC ad G u ++ wr)) (fun r u => f_start st = .inr (r, u))) (z_X G (wC ad G st ++ wr) sz (fun E => f_start st = .inl E)) 1 6 (va_A (wC ad G st ++ wr) sz) := by
  refine vx_ofW (cc := b_S_start) (maxL := 2) (ret := (some .int)) (by decide) rfl ?_
  intro p e s m args below meth c s₁ B hml hex hv
  obtain ⟨rfl, hsz, hP, hK, hD0, ham⟩ := hv
  subst hsz
  have hx := B.exec
  have hb := B.bytes
  have hr := B.returns
  have hts : ∀ w ∈ goT, w.before _ s = true := fun w h => atoms_spec (ws := w_S_start) B.pre w (List.mem_cons_of_mem _ h)
  have hg : ∀ w, goB w = true → w.before _ s = true := fun w h => hts w (goI h)
  have hown : s.vm.findClass R_S = some m.cls := findClass_of_methodNamed B.named
  have hlocks := B.notSynchronized
  have h0 : z_st G (wC ad G st ++ wr) s := ⟨hK, ham⟩
  have hw : z_wl G (wC ad G st ++ wr) s (wC ad G st ++ wr) s.heap [] := z_0 hP hD0
  have hl := lv_entry ([.ref (ad 0)]) (n := 2) (Nat.le_of_ble_eq_true rfl)
  rw [lg_entry_eq]
  generalize (lg_sl ([.ref (ad 0)]) ++ List.replicate (2 - (lg_sl ([.ref (ad 0)])).length) Slot.unset).toArray = ls at hl ⊢
  have hl : lv_has ls 2 [(0, .ref (ad 0))] := hl
  refine lv_aload_n hx hb d_S_start_0 rfl (lv_at hl 0 rfl) ?_
  refine z_Vi0 (As := []) (v := (f_enrolledIssuers st)) ⟨hx, hb, hml, hown, hts⟩ (c_S_enrolledIssuers l G ad st wr _) (cwV 0 hts gV_S_94 rfl rfl rfl (by decide +kernel) ⟨Nat.le_of_ble_eq_true rfl, Nat.le_of_ble_eq_true rfl⟩) h0 hw 0 rfl rfl rfl rfl hl.1 rfl (Nat.le_of_ble_eq_true rfl) d_S_start_1 ⟨Nat.le_of_ble_eq_true rfl, Nat.le_of_ble_eq_true rfl⟩ (fun H locs hw => ?_)
  refine lv_istore_n (lv' := [(1, .int (f_enrolledIssuers st)), (0, .ref (ad 0))]) hx hb d_S_start_4 rfl hl (by decide) rfl (fun ls hl => ?_)
  refine lv_aload_n hx hb d_S_start_5 rfl (lv_at hl 1 rfl) ?_
  refine va_get (D := G.1) (ci := 2) (v := .int (st.1 5)) (C := R_S) (T := T_S) (N := 14) hx hb hts in_S hown h0.1 hw.1 0 rfl rfl 5 (by decide) (hg (.fieldLink R_S 87 "SecureEntry" "up" "Z") (by decide +kernel)) (fun _ h9 => h9) rfl d_S_start_6 ?_
  refine lv_if_ne (tgt := 32) hx hb d_S_start_9 (by decide) (fun c_9 => ?_) (fun c_9 => ?_)
  · exact z_throw0 (cls := "java/lang/IllegalStateException") (ic := 93) hx hb hl9 hown (hg (.classLink R_S 91 "java/lang/IllegalStateException") (by decide +kernel)) (hg (.initialized "java/lang/IllegalStateException") (by decide +kernel)) (hat_S93 hts h0.2.1) (by decide +kernel) h0 hw (hl.1.trans hml.symm) d_S_start_32 d_S_start_35 d_S_start_36 d_S_start_39 hex (Nat.le_of_ble_eq_true rfl) (Nat.le_of_ble_eq_true rfl) (Nat.le_of_ble_eq_true rfl) (Nat.le_of_ble_eq_true rfl) hlocks (by rw [f_start, if_neg c_9]) (Nat.le_of_ble_eq_true rfl) (Nat.le_of_ble_eq_true rfl)
  · refine lv_iload_n hx hb d_S_start_12 rfl (lv_at hl 0 rfl) ?_
    refine lv_if_eq (tgt := 32) hx hb d_S_start_13 (by decide) (fun c_13 => ?_) (fun c_13 => ?_)
    · exact z_throw0 (cls := "java/lang/IllegalStateException") (ic := 93) hx hb hl9 hown (hg (.classLink R_S 91 "java/lang/IllegalStateException") (by decide +kernel)) (hg (.initialized "java/lang/IllegalStateException") (by decide +kernel)) (hat_S93 hts h0.2.1) (by decide +kernel) h0 hw (hl.1.trans hml.symm) d_S_start_32 d_S_start_35 d_S_start_36 d_S_start_39 hex (Nat.le_of_ble_eq_true rfl) (Nat.le_of_ble_eq_true rfl) (Nat.le_of_ble_eq_true rfl) (Nat.le_of_ble_eq_true rfl) hlocks (by rw [f_start, if_pos c_9, if_pos c_13]) (Nat.le_of_ble_eq_true rfl) (Nat.le_of_ble_eq_true rfl)
    · refine lv_aload_n hx hb d_S_start_16 rfl (lv_at hl 1 rfl) ?_
      refine va_get (D := G.1) (ci := 2) (v := .int (st.1 8)) (C := R_S) (T := T_S) (N := 14) hx hb hts in_S hown h0.1 hw.1 0 rfl rfl 8 (by decide) (hg (.fieldLink R_S 41 "SecureEntry" "outerToken" "I") (by decide +kernel)) (fun _ h9 => h9) rfl d_S_start_17 ?_
      refine lv_iconst (v := (-1)) hx hb d_S_start_20 (by decide) ?_
      refine lv_icmp_ne (tgt := 32) hx hb d_S_start_21 (by decide) (fun c_21 => ?_) (fun c_21 => ?_)
      · exact z_throw0 (cls := "java/lang/IllegalStateException") (ic := 93) hx hb hl9 hown (hg (.classLink R_S 91 "java/lang/IllegalStateException") (by decide +kernel)) (hg (.initialized "java/lang/IllegalStateException") (by decide +kernel)) (hat_S93 hts h0.2.1) (by decide +kernel) h0 hw (hl.1.trans hml.symm) d_S_start_32 d_S_start_35 d_S_start_36 d_S_start_39 hex (Nat.le_of_ble_eq_true rfl) (Nat.le_of_ble_eq_true rfl) (Nat.le_of_ble_eq_true rfl) (Nat.le_of_ble_eq_true rfl) hlocks (by rw [f_start, if_pos c_9, if_neg c_13, if_neg c_21]) (Nat.le_of_ble_eq_true rfl) (Nat.le_of_ble_eq_true rfl)
      · refine lv_aload_n hx hb d_S_start_24 rfl (lv_at hl 1 rfl) ?_
        refine va_get (D := G.1) (ci := 2) (v := .int (st.1 9)) (C := R_S) (T := T_S) (N := 14) hx hb hts in_S hown h0.1 hw.1 0 rfl rfl 9 (by decide) (hg (.fieldLink R_S 44 "SecureEntry" "innerToken" "I") (by decide +kernel)) (fun _ h9 => h9) rfl d_S_start_25 ?_
        refine lv_iconst (v := (-1)) hx hb d_S_start_28 (by decide) ?_
        refine lv_icmp_eq (tgt := 40) hx hb d_S_start_29 (by decide) (fun c_29 => ?_) (fun c_29 => ?_)
        · refine lv_aload_n hx hb d_S_start_40 rfl (lv_at hl 1 rfl) ?_
          refine lv_iconst (v := 1) hx hb d_S_start_41 (by decide) ?_
          refine va_put (D := G.1) (ci := 2) (v := .int 1) (ty := .boolean) (C := R_S) (T := T_S) (N := 14) hx hb hts in_S ty_S ty_S_ok n_S hown h0.1 hw.1 hw.2.1 hw.2.2 0 rfl rfl 5 (by decide) (hg (.fieldLink R_S 87 "SecureEntry" "up" "Z") (by decide +kernel)) (fun _ h9 => h9) rfl (by decide +kernel) rfl rfl (Nat.le_of_ble_eq_true rfl) d_S_start_42 (fun H locs hP hD hS => ?_)
          have hI : InvC (sS st 5 1) := inv_sS hI (by decide)
          have hw : z_wl G (wC ad G st ++ wr) s (wC ad G (sS st 5 1) ++ wr) H locs := ⟨hP, hD, hS⟩
          refine lv_aload_n hx hb d_S_start_45 rfl (lv_at hl 1 rfl) ?_
          refine lv_iconst (v := 0) hx hb d_S_start_46 (by decide) ?_
          refine z_Vv0 (As := [.int 0]) (ws1 := (wC ad G (f_becomeUserState (sS st 5 1) 0) ++ wr)) ⟨hx, hb, hml, hown, hts⟩ (c_S_becomeUserState l G ad (sS st 5 1) wr _ 0) (cwV 1 hts gV_S_98 rfl rfl rfl (by decide +kernel) ⟨Nat.le_of_ble_eq_true rfl, Nat.le_of_ble_eq_true rfl⟩) h0 hw 0 rfl rfl rfl rfl hl.1 rfl (Nat.le_of_ble_eq_true rfl) d_S_start_47 ⟨Nat.le_of_ble_eq_true rfl, Nat.le_of_ble_eq_true rfl⟩ (fun H locs hw => ?_)
          have hI : InvC (f_becomeUserState (sS st 5 1) 0) := inv_f_becomeUserState hI
          refine lv_aload_n hx hb d_S_start_50 rfl (lv_at hl 1 rfl) ?_
          refine lv_iconst (v := 0) hx hb d_S_start_51 (by decide) ?_
          refine va_put (D := G.1) (ci := 2) (v := .int 0) (ty := .int) (C := R_S) (T := T_S) (N := 14) hx hb hts in_S ty_S ty_S_ok n_S hown h0.1 hw.1 hw.2.1 hw.2.2 0 rfl rfl 10 (by decide) (hg (.fieldLink R_S 47 "SecureEntry" "administratorRole" "I") (by decide +kernel)) (fun _ h9 => h9) rfl (by decide +kernel) rfl rfl (Nat.le_of_ble_eq_true rfl) d_S_start_52 (fun H locs hP hD hS => ?_)
          have hI : InvC (sS (f_becomeUserState (sS st 5 1) 0) 10 0) := inv_sS hI (by decide)
          have hw : z_wl G (wC ad G st ++ wr) s (wC ad G (sS (f_becomeUserState (sS st 5 1) 0) 10 0) ++ wr) H locs := ⟨hP, hD, hS⟩
          refine lv_aload_n hx hb d_S_start_55 rfl (lv_at hl 1 rfl) ?_
          refine va_get (D := G.1) (ci := 2) (v := .ref (ad 4)) (C := R_S) (T := T_S) (N := 14) hx hb hts in_S hown h0.1 hw.1 0 rfl rfl 3 (by decide) (hg (.fieldLink R_S 33 "SecureEntry" "log" "LSecureEntry$Log;") (by decide +kernel)) (fun _ h9 => h9) rfl d_S_start_56 ?_
          refine lv_iconst (v := 1) hx hb d_S_start_59 (by decide) ?_
          refine lv_aload_n hx hb d_S_start_60 rfl (lv_at hl 1 rfl) ?_
          refine va_get (D := G.1) (ci := 2) (v := .int ((f_becomeUserState (sS st 5 1) 0).1 4)) (C := R_S) (T := T_S) (N := 14) hx hb hts in_S hown h0.1 hw.1 0 rfl rfl 4 (by decide) (hg (.fieldLink R_S 101 "SecureEntry" "time" "I") (by decide +kernel)) (fun _ h9 => h9) rfl d_S_start_61 ?_
          refine lv_iconst (v := (-1)) hx hb d_S_start_64 (by decide) ?_
          refine z_Vv0 (As := [.int 1, .int ((f_becomeUserState (sS st 5 1) 0).1 4), .int (-1)]) (ws1 := (wC ad G (f_write (sS (f_becomeUserState (sS st 5 1) 0) 10 0) 1 ((f_becomeUserState (sS st 5 1) 0).1 4) (-1)) ++ wr)) ⟨hx, hb, hml, hown, hts⟩ (c_O_write l G ad (sS (f_becomeUserState (sS st 5 1) 0) 10 0) wr _ 1 ((f_becomeUserState (sS st 5 1) 0).1 4) (-1) (by first | assumption | exact hI.2.2.2.1 | exact hI.2.2.2.2 | (unfold vp_in; decide) | exact Or.inr (by assumption) | exact cof_mem hI | (intro a h; cases h; assumption) | exact (hI.2.1 _ (by assumption)).1)) (cwV 3 hts gV_S_104 rfl rfl rfl (by decide +kernel) ⟨Nat.le_of_ble_eq_true rfl, Nat.le_of_ble_eq_true rfl⟩) h0 hw 4 rfl rfl rfl rfl hl.1 rfl (Nat.le_of_ble_eq_true rfl) d_S_start_65 ⟨Nat.le_of_ble_eq_true rfl, Nat.le_of_ble_eq_true rfl⟩ (fun H locs hw => ?_)
          have hI : InvC (f_write (sS (f_becomeUserState (sS st 5 1) 0) 10 0) 1 ((f_becomeUserState (sS st 5 1) 0).1 4) (-1)) := inv_f_write hI
          refine lv_iload_n hx hb d_S_start_68 rfl (lv_at hl 0 rfl) ?_
          exact vx_ret (z_iret (wf := fun u : CS => (wC ad G u ++ wr)) (u := (f_write (sS (f_becomeUserState (sS st 5 1) 0) 10 0) 1 ((f_becomeUserState (sS st 5 1) 0).1 4) (-1))) hx hb hr hlocks h0 hw rfl (by rw [f_start, if_pos c_9, if_neg c_13, if_pos c_21, if_pos c_29]) (Nat.le_of_ble_eq_true rfl) (Nat.le_of_ble_eq_true rfl) d_S_start_69)
        · exact z_throw0 (cls := "java/lang/IllegalStateException") (ic := 93) hx hb hl9 hown (hg (.classLink R_S 91 "java/lang/IllegalStateException") (by decide +kernel)) (hg (.initialized "java/lang/IllegalStateException") (by decide +kernel)) (hat_S93 hts h0.2.1) (by decide +kernel) h0 hw (hl.1.trans hml.symm) d_S_start_32 d_S_start_35 d_S_start_36 d_S_start_39 hex (Nat.le_of_ble_eq_true rfl) (Nat.le_of_ble_eq_true rfl) (Nat.le_of_ble_eq_true rfl) (Nat.le_of_ble_eq_true rfl) hlocks (by rw [f_start, if_pos c_9, if_neg c_13, if_pos c_21, if_neg c_29]) (Nat.le_of_ble_eq_true rfl) (Nat.le_of_ble_eq_true rfl)
set_option maxHeartbeats 4000000 in
set_option maxRecDepth 100000 in
theorem c_S_pass (l : Launch) (hl9 : l.stackTraces = false) (G : gG) (ad : Nat → Nat) (st : CS) (wr : va_W) (sz : Nat) (p1 : Int32) (hI : InvC st) : vx_Met l y_S_pass w_S_pass { frames := 6, cells := 1, slots := 6, locals := 148 } (va_Pc [.ref (ad 0), .int p1] (z_pre G (wC ad G st ++ wr) sz)) (z_Qi G (wC ad G st ++ wr) sz (fun u : CS => (wC ad G u ++ wr)) (fun r u => f_pass st p1 = .inr (r, u))) (z_X G (wC ad G st ++ wr) sz (fun E => f_pass st p1 = .inl E)) 1 6 (va_A (wC ad G st ++ wr) sz) := by
  refine vx_ofW (cc := b_S_pass) (maxL := 3) (ret := (some .int)) (by decide) rfl ?_
  intro p e s m args below meth c s₁ B hml hex hv
  obtain ⟨rfl, hsz, hP, hK, hD0, ham⟩ := hv
  subst hsz
  have hx := B.exec
  have hb := B.bytes
  have hr := B.returns
  have hts : ∀ w ∈ goT, w.before _ s = true := fun w h => atoms_spec (ws := w_S_pass) B.pre w (List.mem_cons_of_mem _ h)
  have hg : ∀ w, goB w = true → w.before _ s = true := fun w h => hts w (goI h)
  have hown : s.vm.findClass R_S = some m.cls := findClass_of_methodNamed B.named
  have hlocks := B.notSynchronized
  have h0 : z_st G (wC ad G st ++ wr) s := ⟨hK, ham⟩
  have hw : z_wl G (wC ad G st ++ wr) s (wC ad G st ++ wr) s.heap [] := z_0 hP hD0
  have hl := lv_entry ([.ref (ad 0), .int p1]) (n := 3) (Nat.le_of_ble_eq_true rfl)
  rw [lg_entry_eq]
  generalize (lg_sl ([.ref (ad 0), .int p1]) ++ List.replicate (3 - (lg_sl ([.ref (ad 0), .int p1])).length) Slot.unset).toArray = ls at hl ⊢
  have hl : lv_has ls 3 [(0, .ref (ad 0)), (1, .int p1)] := hl
  have loop : ∀ N : Nat, N < 2 ^ 31 → p1 = nI N → ¬ f_isWithin p1 1 1000 = 0 → p1 ≤ 100000 - (st.1 4) → ∀ (n i : Nat), i ≤ N → N + 1 ≤ i + n → ∀ (H : Heap) (locs : List Loc), z_wl G (wC ad G st ++ wr) s (wC ad G (f_secs st i) ++ wr) H locs → InvC (f_secs st i) → ∀ (ls : Array Slot), lv_has ls 3 [(2, .int (nI i)), (0, .ref (ad 0)), (1, .int p1)] → W p l e (headSpec w_S_pass { frames := 6, cells := 1, slots := 6, locals := 148 }).room s m #[.ref (ad 0), .int p1] below meth c H locs 0 0 (vx_MQ below (z_Qi G (wC ad G st ++ wr) s.heap.size (fun u : CS => (wC ad G u ++ wr)) (fun r u => f_pass st p1 = .inr (r, u))) (z_X G (wC ad G st ++ wr) s.heap.size (fun E => f_pass st p1 = .inl E)) #[.ref (ad 0), .int p1] s 1 6 (va_A (wC ad G st ++ wr) s.heap.size)) (F0 m 32 ls []) := by
    intro N hN eN c_8 c_19 n
    induction n with
    | zero => intro i h1 h2; exact absurd h2 (by omega)
    | succ n ih =>
      intro i h1 h2 H locs hw hI ls hl
      refine lv_iload_n hx hb d_S_pass_32 rfl (lv_at hl 0 rfl) ?_
      refine lv_iload_n hx hb d_S_pass_33 rfl (lv_at hl 2 rfl) ?_
      refine lv_icmp_ge (tgt := 61) hx hb d_S_pass_34 (by decide) (fun c_34 => ?_) (fun c_34 => ?_)
      · have hi : i = N := Nat.le_antisymm h1 ((nI_leI hN (by omega)).mp (eN ▸ c_34))
        refine lv_aload_n hx hb d_S_pass_61 rfl (lv_at hl 1 rfl) ?_
        refine va_get (D := G.1) (ci := 2) (v := .int ((f_secs st i).1 4)) (C := R_S) (T := T_S) (N := 14) hx hb hts in_S hown h0.1 hw.1 0 rfl rfl 4 (by decide) (hg (.fieldLink R_S 101 "SecureEntry" "time" "I") (by decide +kernel)) (fun _ h9 => h9) rfl d_S_pass_62 ?_
        exact vx_ret (z_iret (wf := fun u : CS => (wC ad G u ++ wr)) (post := fun r u => f_pass st p1 = .inr (r, u)) (u := f_secs st i) hx hb hr hlocks h0 hw rfl (by rw [f_pass, if_neg c_8, if_pos c_19, show p1.toNatClampNeg = i by rw [eN, nI_clamp hN, hi]]) (Nat.le_of_ble_eq_true rfl) (Nat.le_of_ble_eq_true rfl) d_S_pass_65)
      · have hi : i < N := (nI_ltI (by omega) hN).mp (Int32.not_le.mp (eN ▸ c_34))
        refine lv_aload_n hx hb d_S_pass_37 rfl (lv_at hl 1 rfl) ?_
        refine lv_dup hx hb d_S_pass_38 rfl ?_
        refine va_get (D := G.1) (ci := 2) (v := .int ((f_secs st i).1 4)) (C := R_S) (T := T_S) (N := 14) hx hb hts in_S hown h0.1 hw.1 0 rfl rfl 4 (by decide) (hg (.fieldLink R_S 101 "SecureEntry" "time" "I") (by decide +kernel)) (fun _ h9 => h9) rfl d_S_pass_39 ?_
        refine lv_iconst (v := 1) hx hb d_S_pass_42 (by decide) ?_
        refine lv_iadd hx hb d_S_pass_43 ?_
        refine va_put (D := G.1) (ci := 2) (v := .int (((f_secs st i).1 4) + 1)) (ty := .int) (C := R_S) (T := T_S) (N := 14) hx hb hts in_S ty_S ty_S_ok n_S hown h0.1 hw.1 hw.2.1 hw.2.2 0 rfl rfl 4 (by decide) (hg (.fieldLink R_S 101 "SecureEntry" "time" "I") (by decide +kernel)) (fun _ h9 => h9) rfl (by decide +kernel) rfl rfl (Nat.le_of_ble_eq_true rfl) d_S_pass_44 (fun H locs hP hD hS => ?_)
        have hI : InvC (sS (f_secs st i) 4 (((f_secs st i).1 4) + 1)) := inv_sS hI (by decide)
        have hw : z_wl G (wC ad G st ++ wr) s (wC ad G (sS (f_secs st i) 4 (((f_secs st i).1 4) + 1)) ++ wr) H locs := ⟨hP, hD, hS⟩
        refine lv_aload_n hx hb d_S_pass_47 rfl (lv_at hl 1 rfl) ?_
        refine z_Vv0 (As := []) (ws1 := (wC ad G (f_endWaitingInTime (sS (f_secs st i) 4 (((f_secs st i).1 4) + 1))) ++ wr)) ⟨hx, hb, hml, hown, hts⟩ (c_S_endWaitingInTime l G ad (sS (f_secs st i) 4 (((f_secs st i).1 4) + 1)) wr _  (by first | assumption | exact hI.2.2.2.1 | exact hI.2.2.2.2 | (unfold vp_in; decide) | exact Or.inr (by assumption) | exact cof_mem hI | (intro a h; cases h; assumption) | exact (hI.2.1 _ (by assumption)).1)) (cwV 0 hts gV_S_184 rfl rfl rfl (by decide +kernel) ⟨Nat.le_of_ble_eq_true rfl, Nat.le_of_ble_eq_true rfl⟩) h0 hw 0 rfl rfl rfl rfl hl.1 rfl (Nat.le_of_ble_eq_true rfl) d_S_pass_48 ⟨Nat.le_of_ble_eq_true rfl, Nat.le_of_ble_eq_true rfl⟩ (fun H locs hw => ?_)
        have hI : InvC (f_endWaitingInTime (sS (f_secs st i) 4 (((f_secs st i).1 4) + 1))) := inv_f_endWaitingInTime hI
        refine lv_aload_n hx hb d_S_pass_51 rfl (lv_at hl 1 rfl) ?_
        refine z_Vv0 (As := []) (ws1 := (wC ad G (f_endAdministrationInTime (f_endWaitingInTime (sS (f_secs st i) 4 (((f_secs st i).1 4) + 1)))) ++ wr)) ⟨hx, hb, hml, hown, hts⟩ (c_S_endAdministrationInTime l G ad (f_endWaitingInTime (sS (f_secs st i) 4 (((f_secs st i).1 4) + 1))) wr _  (by first | assumption | exact hI.2.2.2.1 | exact hI.2.2.2.2 | (unfold vp_in; decide) | exact Or.inr (by assumption) | exact cof_mem hI | (intro a h; cases h; assumption) | exact (hI.2.1 _ (by assumption)).1)) (cwV 0 hts gV_S_187 rfl rfl rfl (by decide +kernel) ⟨Nat.le_of_ble_eq_true rfl, Nat.le_of_ble_eq_true rfl⟩) h0 hw 0 rfl rfl rfl rfl hl.1 rfl (Nat.le_of_ble_eq_true rfl) d_S_pass_52 ⟨Nat.le_of_ble_eq_true rfl, Nat.le_of_ble_eq_true rfl⟩ (fun H locs hw => ?_)
        have hI : InvC (f_endAdministrationInTime (f_endWaitingInTime (sS (f_secs st i) 4 (((f_secs st i).1 4) + 1)))) := inv_f_endAdministrationInTime hI
        refine lv_iinc (v := ((nI i) + 1)) (lv' := [(2, .int ((nI i) + 1)), (0, .ref (ad 0)), (1, .int p1)]) hx hb d_S_pass_55 hl (k := 0) rfl rfl (by decide) rfl (fun ls hl => ?_)
        refine lv_goto (tgt := 32) hx hb d_S_pass_58 (by decide) ?_
        have hl := lv_sub hl [0, 1, 2] rfl
        exact ih (i + 1) (by omega) (by omega) H locs hw hI ls (by rw [← nI_1]; exact hl)
  refine lv_iload_n hx hb d_S_pass_0 rfl (lv_at hl 1 rfl) ?_
  refine lv_iconst (v := 1) hx hb d_S_pass_1 (by decide) ?_
  refine lv_sipush (v := 1000) hx hb d_S_pass_2 (by decide) ?_
  refine z_Si0 (As := [.int p1, .int 1, .int 1000]) (v := (f_isWithin p1 1 1000)) ⟨hx, hb, hml, hown, hts⟩ (c_S_isWithin l G (wC ad G st ++ wr) _ p1 1 1000) (cwS 3 hts gS_S_69 rfl rfl rfl (by decide +kernel) ⟨Nat.le_of_ble_eq_true rfl, Nat.le_of_ble_eq_true rfl⟩) h0 hw rfl hl.1 rfl (Nat.le_of_ble_eq_true rfl) d_S_pass_5 ⟨Nat.le_of_ble_eq_true rfl, Nat.le_of_ble_eq_true rfl⟩ (fun H locs hw => ?_)
  refine lv_if_eq (tgt := 22) hx hb d_S_pass_8 (by decide) (fun c_8 => ?_) (fun c_8 => ?_)
  · exact z_throw0 (cls := "java/lang/IllegalArgumentException") (ic := 56) hx hb hl9 hown (hg (.classLink R_S 54 "java/lang/IllegalArgumentException") (by decide +kernel)) (hg (.initialized "java/lang/IllegalArgumentException") (by decide +kernel)) (hat_S56 hts h0.2.1) (by decide +kernel) h0 hw (hl.1.trans hml.symm) d_S_pass_22 d_S_pass_25 d_S_pass_26 d_S_pass_29 hex (Nat.le_of_ble_eq_true rfl) (Nat.le_of_ble_eq_true rfl) (Nat.le_of_ble_eq_true rfl) (Nat.le_of_ble_eq_true rfl) hlocks (by rw [f_pass, if_pos c_8]) (Nat.le_of_ble_eq_true rfl) (Nat.le_of_ble_eq_true rfl)
  · refine lv_iload_n hx hb d_S_pass_11 rfl (lv_at hl 1 rfl) ?_
    refine lv_ldc hx hb hown (hg (.constant R_S 183 100000) (by decide +kernel)) d_S_pass_12 ?_
    refine lv_aload_n hx hb d_S_pass_14 rfl (lv_at hl 0 rfl) ?_
    refine va_get (D := G.1) (ci := 2) (v := .int (st.1 4)) (C := R_S) (T := T_S) (N := 14) hx hb hts in_S hown h0.1 hw.1 0 rfl rfl 4 (by decide) (hg (.fieldLink R_S 101 "SecureEntry" "time" "I") (by decide +kernel)) (fun _ h9 => h9) rfl d_S_pass_15 ?_
    refine lv_isub hx hb d_S_pass_18 ?_
    refine lv_icmp_le (tgt := 30) hx hb d_S_pass_19 (by decide) (fun c_19 => ?_) (fun c_19 => ?_)
    · obtain ⟨N, hN, eN⟩ := win_1 c_8
      refine lv_iconst (v := 0) hx hb d_S_pass_30 (by decide) ?_
      refine lv_istore_n (lv' := [(2, .int 0), (0, .ref (ad 0)), (1, .int p1)]) hx hb d_S_pass_31 rfl hl (by decide) rfl (fun ls hl => ?_)
      exact loop N hN eN c_8 c_19 (N + 1) 0 (Nat.zero_le _) (by omega) _ _ hw hI ls hl
    · exact z_throw0 (cls := "java/lang/IllegalArgumentException") (ic := 56) hx hb hl9 hown (hg (.classLink R_S 54 "java/lang/IllegalArgumentException") (by decide +kernel)) (hg (.initialized "java/lang/IllegalArgumentException") (by decide +kernel)) (hat_S56 hts h0.2.1) (by decide +kernel) h0 hw (hl.1.trans hml.symm) d_S_pass_22 d_S_pass_25 d_S_pass_26 d_S_pass_29 hex (Nat.le_of_ble_eq_true rfl) (Nat.le_of_ble_eq_true rfl) (Nat.le_of_ble_eq_true rfl) (Nat.le_of_ble_eq_true rfl) hlocks (by rw [f_pass, if_neg c_8, if_neg c_19]) (Nat.le_of_ble_eq_true rfl) (Nat.le_of_ble_eq_true rfl)
end LC
end
