section GOODS
theorem z_gT {own : String} {idx : Nat} {y : MethodName} {b : ByteArray} {n : Nat} {r : Option FieldType} (h : ([.methodLink own idx y, .static y, .initialized y.cls, .code y b n r] : List Cond).all goB = true) : GoodIn goT (va_wsS own idx y (.code y b n r :: goT)) := by
  have hm : ∀ w ∈ va_wsS own idx y (.code y b n r :: goT), w ∈ goT := by
    intro w hw
    unfold va_wsS at hw
    rcases List.mem_append.mp hw with hw | hw
    · exact goI (List.all_eq_true.mp h w (by simp only [List.mem_cons, List.not_mem_nil, or_false] at hw ⊢; rcases hw with h | h | h <;> simp [h]))
    · rcases List.mem_cons.mp hw with rfl | hw
      · exact goI (List.all_eq_true.mp h _ (by simp))
      · exact hw
  exact goodIn_sub hm (List.all_eq_true.mpr (fun w hw => goG (hm w hw)))
theorem z_gV {own : String} {idx : Nat} {C : String} {y : MethodName} {b : ByteArray} {n : Nat} {r : Option FieldType} (h : ([.methodLink own idx y, .instanceMethod y, .selects C y y, .initialized C, .code y b n r] : List Cond).all goB = true) : GoodIn goT (wsV own idx C y (.code y b n r :: goT)) := by
  have hm : ∀ w ∈ wsV own idx C y (.code y b n r :: goT), w ∈ goT := by
    intro w hw
    unfold wsV at hw
    rcases List.mem_append.mp hw with hw | hw
    · exact goI (List.all_eq_true.mp h w (by simp only [List.mem_cons, List.not_mem_nil, or_false] at hw ⊢; rcases hw with h | h | h | h <;> simp [h]))
    · rcases List.mem_cons.mp hw with rfl | hw
      · exact goI (List.all_eq_true.mp h _ (by simp))
      · exact hw
  exact goodIn_sub hm (List.all_eq_true.mpr (fun w hw => goG (hm w hw)))
theorem z_gS {own : String} {idx : Nat} {y : MethodName} {b : ByteArray} {n : Nat} {r : Option FieldType} (h : ([.methodLink own idx y, .static y, .initialized own, .code y b n r] : List Cond).all goB = true) : GoodIn goT (wsS own idx y (.code y b n r :: goT)) := by
  have hm : ∀ w ∈ wsS own idx y (.code y b n r :: goT), w ∈ goT := by
    intro w hw
    unfold wsS at hw
    rcases List.mem_append.mp hw with hw | hw
    · exact goI (List.all_eq_true.mp h w (by simp only [List.mem_cons, List.not_mem_nil, or_false] at hw ⊢; rcases hw with h | h | h <;> simp [h]))
    · rcases List.mem_cons.mp hw with rfl | hw
      · exact goI (List.all_eq_true.mp h _ (by simp))
      · exact hw
  exact goodIn_sub hm (List.all_eq_true.mpr (fun w hw => goG (hm w hw)))
theorem gS_S_50 : GoodIn goT (wsS R_S 50 y_S_areCertificateNumbers w_S_areCertificateNumbers) := z_gS (b := b_S_areCertificateNumbers) (n := 6) (r := (Option.some Jvm.ClassFile.FieldType.boolean)) (by decide +kernel)
theorem hat_S56 {args : Array Value} {s : State} (hts : ∀ w ∈ goT, w.before args s = true) (hN : ∀ w ∈ nwL, va_Nw w s) : ∀ w ∈ vx_at0 R_S 56 "java/lang/IllegalArgumentException" ["java/lang/RuntimeException", "java/lang/Exception"], w.before args s = true :=
  vx_hat (B := [.castable "java/lang/IllegalArgumentException" "java/lang/IllegalArgumentException", .declares ⟨"java/lang/RuntimeException", "<init>", "()V"⟩, .declares ⟨"java/lang/Exception", "<init>", "()V"⟩, .declares ⟨"java/lang/Throwable", "<init>", "()V"⟩]) (fun w hw => hts w (goI ((by decide +kernel : ∀ w ∈ (vx_at0 R_S 56 "java/lang/IllegalArgumentException" ["java/lang/RuntimeException", "java/lang/Exception"]).filter goodWord, goB w = true) w hw))) (by decide +kernel) (vx_c (va_Nw.use rfl (hN _ (by decide +kernel))) (vx_c (va_Nw.use rfl (hN _ (by decide +kernel))) (vx_c (va_Nw.use rfl (hN _ (by decide +kernel))) (vx_c (va_Nw.use rfl (hN _ (by decide +kernel))) (vx_n)))))
theorem god_S56 : (Bundle.fit "java/lang/IllegalArgumentException" = true ∧ ∀ n ∈ (["java/lang/RuntimeException", "java/lang/Exception"] : List String), Bundle.fit n = true) ∧ ∀ w ∈ Cond.classLink R_S 54 "java/lang/IllegalArgumentException" :: Cond.initialized "java/lang/IllegalArgumentException" :: vx_at0 R_S 56 "java/lang/IllegalArgumentException" ["java/lang/RuntimeException", "java/lang/Exception"], vx_ot w = true := by decide +kernel
theorem gV_S_57 : GoodIn goT (wsV R_S 57 R_S y_S_isEnrolled w_S_isEnrolled) := z_gV (b := b_S_isEnrolled) (n := 2) (r := (Option.some Jvm.ClassFile.FieldType.boolean)) (by decide +kernel)
theorem gV_S_61 : GoodIn goT (wsV R_S 61 R_S y_S_rightSignature w_S_rightSignature) := z_gV (b := b_S_rightSignature) (n := 8) (r := (Option.some Jvm.ClassFile.FieldType.int)) (by decide +kernel)
theorem gS_S_65 : GoodIn goT (wsS R_S 65 y_S_requireToken w_S_requireToken) := z_gS (b := b_S_requireToken) (n := 1) (r := (Option.none : Option Jvm.ClassFile.FieldType)) (by decide +kernel)
theorem gS_S_69 : GoodIn goT (wsS R_S 69 y_S_isWithin w_S_isWithin) := z_gS (b := b_S_isWithin) (n := 3) (r := (Option.some Jvm.ClassFile.FieldType.boolean)) (by decide +kernel)
theorem gV_S_73 : GoodIn goT (wsV R_S 73 R_S y_S_requireInNoReader w_S_requireInNoReader) := z_gV (b := b_S_requireInNoReader) (n := 2) (r := (Option.none : Option Jvm.ClassFile.FieldType)) (by decide +kernel)
theorem gV_S_76 : GoodIn goT (wsV R_S 76 R_S y_S_certificateOf w_S_certificateOf) := z_gV (b := b_S_certificateOf) (n := 3) (r := (Option.some (Jvm.ClassFile.FieldType.object "SecureEntry$Certificate"))) (by decide +kernel)
theorem gV_S_83 : GoodIn goT (wsV R_S 83 R_S y_S_give w_S_give) := z_gV (b := b_S_give) (n := 3) (r := (Option.none : Option Jvm.ClassFile.FieldType)) (by decide +kernel)
theorem hat_S93 {args : Array Value} {s : State} (hts : ∀ w ∈ goT, w.before args s = true) (hN : ∀ w ∈ nwL, va_Nw w s) : ∀ w ∈ vx_at0 R_S 93 "java/lang/IllegalStateException" ["java/lang/RuntimeException", "java/lang/Exception"], w.before args s = true :=
  vx_hat (B := [.castable "java/lang/IllegalStateException" "java/lang/IllegalStateException", .declares ⟨"java/lang/RuntimeException", "<init>", "()V"⟩, .declares ⟨"java/lang/Exception", "<init>", "()V"⟩, .declares ⟨"java/lang/Throwable", "<init>", "()V"⟩]) (fun w hw => hts w (goI ((by decide +kernel : ∀ w ∈ (vx_at0 R_S 93 "java/lang/IllegalStateException" ["java/lang/RuntimeException", "java/lang/Exception"]).filter goodWord, goB w = true) w hw))) (by decide +kernel) (vx_c (va_Nw.use rfl (hN _ (by decide +kernel))) (vx_c (va_Nw.use rfl (hN _ (by decide +kernel))) (vx_c (va_Nw.use rfl (hN _ (by decide +kernel))) (vx_c (va_Nw.use rfl (hN _ (by decide +kernel))) (vx_n)))))
theorem god_S93 : (Bundle.fit "java/lang/IllegalStateException" = true ∧ ∀ n ∈ (["java/lang/RuntimeException", "java/lang/Exception"] : List String), Bundle.fit n = true) ∧ ∀ w ∈ Cond.classLink R_S 91 "java/lang/IllegalStateException" :: Cond.initialized "java/lang/IllegalStateException" :: vx_at0 R_S 93 "java/lang/IllegalStateException" ["java/lang/RuntimeException", "java/lang/Exception"], vx_ot w = true := by decide +kernel
theorem gV_S_94 : GoodIn goT (wsV R_S 94 R_S y_S_enrolledIssuers w_S_enrolledIssuers) := z_gV (b := b_S_enrolledIssuers) (n := 3) (r := (Option.some Jvm.ClassFile.FieldType.int)) (by decide +kernel)
theorem gV_S_98 : GoodIn goT (wsV R_S 98 R_S y_S_becomeUserState w_S_becomeUserState) := z_gV (b := b_S_becomeUserState) (n := 2) (r := (Option.none : Option Jvm.ClassFile.FieldType)) (by decide +kernel)
theorem gV_S_104 : GoodIn goT (wsV R_S 104 R_O y_O_write w_O_write) := z_gV (b := b_O_write) (n := 4) (r := (Option.none : Option Jvm.ClassFile.FieldType)) (by decide +kernel)
theorem gV_S_108 : GoodIn goT (wsV R_S 108 R_S y_S_requireUp w_S_requireUp) := z_gV (b := b_S_requireUp) (n := 1) (r := (Option.none : Option Jvm.ClassFile.FieldType)) (by decide +kernel)
theorem gS_S_111 : GoodIn goT (wsS R_S 111 y_S_requireEmpty w_S_requireEmpty) := z_gS (b := b_S_requireEmpty) (n := 1) (r := (Option.none : Option Jvm.ClassFile.FieldType)) (by decide +kernel)
theorem gV_S_114 : GoodIn goT (wsV R_S 114 R_S y_S_writeAbout w_S_writeAbout) := z_gV (b := b_S_writeAbout) (n := 4) (r := (Option.none : Option Jvm.ClassFile.FieldType)) (by decide +kernel)
theorem gV_S_118 : GoodIn goT (wsV R_S 118 R_S y_S_isAuthorised w_S_isAuthorised) := z_gV (b := b_S_isAuthorised) (n := 2) (r := (Option.some Jvm.ClassFile.FieldType.boolean)) (by decide +kernel)
theorem gV_S_121 : GoodIn goT (wsV R_S 121 R_S y_S_allowEntry w_S_allowEntry) := z_gV (b := b_S_allowEntry) (n := 1) (r := (Option.none : Option Jvm.ClassFile.FieldType)) (by decide +kernel)
theorem gV_S_124 : GoodIn goT (wsV R_S 124 R_S y_S_isGood w_S_isGood) := z_gV (b := b_S_isGood) (n := 2) (r := (Option.some Jvm.ClassFile.FieldType.boolean)) (by decide +kernel)
theorem gV_S_127 : GoodIn goT (wsV R_S 127 R_S y_S_turnAway w_S_turnAway) := z_gV (b := b_S_turnAway) (n := 2) (r := (Option.none : Option Jvm.ClassFile.FieldType)) (by decide +kernel)
theorem gV_S_134 : GoodIn goT (wsV R_S 134 R_S y_S_matches w_S_matches) := z_gV (b := b_S_matches) (n := 3) (r := (Option.some Jvm.ClassFile.FieldType.boolean)) (by decide +kernel)
theorem gV_S_138 : GoodIn goT (wsV R_S 138 R_S y_S_authorisationBy w_S_authorisationBy) := z_gV (b := b_S_authorisationBy) (n := 6) (r := (Option.some (Jvm.ClassFile.FieldType.object "SecureEntry$Certificate"))) (by decide +kernel)
theorem gS_S_142 : GoodIn goT (wsS R_S 142 y_S_requireFilled w_S_requireFilled) := z_gS (b := b_S_requireFilled) (n := 1) (r := (Option.none : Option Jvm.ClassFile.FieldType)) (by decide +kernel)
theorem gV_S_145 : GoodIn goT (wsV R_S 145 R_S y_S_unlock w_S_unlock) := z_gV (b := b_S_unlock) (n := 1) (r := (Option.none : Option Jvm.ClassFile.FieldType)) (by decide +kernel)
theorem gV_S_148 : GoodIn goT (wsV R_S 148 R_S y_S_authorisedRole w_S_authorisedRole) := z_gV (b := b_S_authorisedRole) (n := 3) (r := (Option.some Jvm.ClassFile.FieldType.int)) (by decide +kernel)
theorem gV_S_152 : GoodIn goT (wsV R_S 152 R_S y_S_dismissAdministrator w_S_dismissAdministrator) := z_gV (b := b_S_dismissAdministrator) (n := 1) (r := (Option.none : Option Jvm.ClassFile.FieldType)) (by decide +kernel)
theorem gV_S_155 : GoodIn goT (wsV R_S 155 R_S y_S_requireAdministrator w_S_requireAdministrator) := z_gV (b := b_S_requireAdministrator) (n := 1) (r := (Option.none : Option Jvm.ClassFile.FieldType)) (by decide +kernel)
theorem gV_S_158 : GoodIn goT (wsV R_S 158 R_S y_S_requireRole w_S_requireRole) := z_gV (b := b_S_requireRole) (n := 2) (r := (Option.none : Option Jvm.ClassFile.FieldType)) (by decide +kernel)
theorem gV_S_167 : GoodIn goT (wsV R_S 167 R_O y_O_clear w_O_clear) := z_gV (b := b_O_clear) (n := 1) (r := (Option.none : Option Jvm.ClassFile.FieldType)) (by decide +kernel)
theorem gV_S_176 : GoodIn goT (wsV R_S 176 R_S y_S_isUnlocked w_S_isUnlocked) := z_gV (b := b_S_isUnlocked) (n := 1) (r := (Option.some Jvm.ClassFile.FieldType.boolean)) (by decide +kernel)
theorem gV_S_184 : GoodIn goT (wsV R_S 184 R_S y_S_endWaitingInTime w_S_endWaitingInTime) := z_gV (b := b_S_endWaitingInTime) (n := 2) (r := (Option.none : Option Jvm.ClassFile.FieldType)) (by decide +kernel)
theorem gV_S_187 : GoodIn goT (wsV R_S 187 R_S y_S_endAdministrationInTime w_S_endAdministrationInTime) := z_gV (b := b_S_endAdministrationInTime) (n := 1) (r := (Option.none : Option Jvm.ClassFile.FieldType)) (by decide +kernel)
theorem hat_S192 {args : Array Value} {s : State} (hts : ∀ w ∈ goT, w.before args s = true) (hN : ∀ w ∈ nwL, va_Nw w s) : ∀ w ∈ vx_at0 R_S 192 "java/util/NoSuchElementException" ["java/lang/RuntimeException", "java/lang/Exception"], w.before args s = true :=
  vx_hat (B := [.castable "java/util/NoSuchElementException" "java/util/NoSuchElementException", .declares ⟨"java/lang/RuntimeException", "<init>", "()V"⟩, .declares ⟨"java/lang/Exception", "<init>", "()V"⟩, .declares ⟨"java/lang/Throwable", "<init>", "()V"⟩]) (fun w hw => hts w (goI ((by decide +kernel : ∀ w ∈ (vx_at0 R_S 192 "java/util/NoSuchElementException" ["java/lang/RuntimeException", "java/lang/Exception"]).filter goodWord, goB w = true) w hw))) (by decide +kernel) (vx_c (va_Nw.use rfl (hN _ (by decide +kernel))) (vx_c (va_Nw.use rfl (hN _ (by decide +kernel))) (vx_c (va_Nw.use rfl (hN _ (by decide +kernel))) (vx_c (va_Nw.use rfl (hN _ (by decide +kernel))) (vx_n)))))
theorem god_S192 : (Bundle.fit "java/util/NoSuchElementException" = true ∧ ∀ n ∈ (["java/lang/RuntimeException", "java/lang/Exception"] : List String), Bundle.fit n = true) ∧ ∀ w ∈ Cond.classLink R_S 190 "java/util/NoSuchElementException" :: Cond.initialized "java/util/NoSuchElementException" :: vx_at0 R_S 192 "java/util/NoSuchElementException" ["java/lang/RuntimeException", "java/lang/Exception"], vx_ot w = true := by decide +kernel
theorem gV_S_217 : GoodIn goT (wsV R_S 217 R_S y_S_isValid w_S_isValid) := z_gV (b := b_S_isValid) (n := 2) (r := (Option.some Jvm.ClassFile.FieldType.boolean)) (by decide +kernel)
theorem gS_S_221 : GoodIn goT (wsS R_S 221 y_S_asNumber w_S_asNumber) := z_gS (b := b_S_asNumber) (n := 1) (r := (Option.some Jvm.ClassFile.FieldType.int)) (by decide +kernel)
theorem gV_S_225 : GoodIn goT (wsV R_S 225 R_S y_S_isAlarmSounding w_S_isAlarmSounding) := z_gV (b := b_S_isAlarmSounding) (n := 1) (r := (Option.some Jvm.ClassFile.FieldType.boolean)) (by decide +kernel)
theorem hat_S233 {args : Array Value} {s : State} (hts : ∀ w ∈ goT, w.before args s = true) (hN : ∀ w ∈ nwL, va_Nw w s) : ∀ w ∈ vx_at0 R_S 233 "java/lang/UnsupportedOperationException" ["java/lang/RuntimeException", "java/lang/Exception"], w.before args s = true :=
  vx_hat (B := [.castable "java/lang/UnsupportedOperationException" "java/lang/UnsupportedOperationException", .declares ⟨"java/lang/RuntimeException", "<init>", "()V"⟩, .declares ⟨"java/lang/Exception", "<init>", "()V"⟩, .declares ⟨"java/lang/Throwable", "<init>", "()V"⟩]) (fun w hw => hts w (goI ((by decide +kernel : ∀ w ∈ (vx_at0 R_S 233 "java/lang/UnsupportedOperationException" ["java/lang/RuntimeException", "java/lang/Exception"]).filter goodWord, goB w = true) w hw))) (by decide +kernel) (vx_c (va_Nw.use rfl (hN _ (by decide +kernel))) (vx_c (va_Nw.use rfl (hN _ (by decide +kernel))) (vx_c (va_Nw.use rfl (hN _ (by decide +kernel))) (vx_c (va_Nw.use rfl (hN _ (by decide +kernel))) (vx_n)))))
theorem god_S233 : (Bundle.fit "java/lang/UnsupportedOperationException" = true ∧ ∀ n ∈ (["java/lang/RuntimeException", "java/lang/Exception"] : List String), Bundle.fit n = true) ∧ ∀ w ∈ Cond.classLink R_S 231 "java/lang/UnsupportedOperationException" :: Cond.initialized "java/lang/UnsupportedOperationException" :: vx_at0 R_S 233 "java/lang/UnsupportedOperationException" ["java/lang/RuntimeException", "java/lang/Exception"], vx_ot w = true := by decide +kernel
theorem gV_S_240 : GoodIn goT (wsV R_S 240 R_C y_C_isFitForItsKind w_C_isFitForItsKind) := z_gV (b := b_C_isFitForItsKind) (n := 1) (r := (Option.some Jvm.ClassFile.FieldType.boolean)) (by decide +kernel)
theorem gV_S_243 : GoodIn goT (wsV R_S 243 R_S y_S_isValidForIdHolder w_S_isValidForIdHolder) := z_gV (b := b_S_isValidForIdHolder) (n := 5) (r := (Option.some Jvm.ClassFile.FieldType.boolean)) (by decide +kernel)
theorem gV_S_246 : GoodIn goT (wsV R_S 246 R_C y_C_role w_C_role) := z_gV (b := b_C_role) (n := 1) (r := (Option.some Jvm.ClassFile.FieldType.int)) (by decide +kernel)
theorem gS_S_249 : GoodIn goT (va_wsS R_S 249 y_I_bitCount w_I_bitCount) := z_gT (b := b_I_bitCount) (n := 1) (r := (Option.some Jvm.ClassFile.FieldType.int)) (by decide +kernel)
theorem gV_S_254 : GoodIn goT (wsV R_S 254 R_C y_C_clearance w_C_clearance) := z_gV (b := b_C_clearance) (n := 1) (r := (Option.some Jvm.ClassFile.FieldType.int)) (by decide +kernel)
theorem gV_O_23 : GoodIn goT (wsV R_O 23 R_O y_O_loseOldest w_O_loseOldest) := z_gV (b := b_O_loseOldest) (n := 1) (r := (Option.none : Option Jvm.ClassFile.FieldType)) (by decide +kernel)
end GOODS
