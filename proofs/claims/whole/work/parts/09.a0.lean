section CON
theorem d_I_bitCount_0 : decode b_I_bitCount 0 = .ok (.iload_n 0, 1) := by decide +kernel
theorem d_I_bitCount_1 : decode b_I_bitCount 1 = .ok (.iload_n 0, 1) := by decide +kernel
theorem d_I_bitCount_2 : decode b_I_bitCount 2 = .ok (.iconst 1, 1) := by decide +kernel
theorem d_I_bitCount_3 : decode b_I_bitCount 3 = .ok (.iushr, 1) := by decide +kernel
theorem d_I_bitCount_4 : decode b_I_bitCount 4 = .ok (.ldc_w 265, 3) := by decide +kernel
theorem d_I_bitCount_7 : decode b_I_bitCount 7 = .ok (.iand, 1) := by decide +kernel
theorem d_I_bitCount_8 : decode b_I_bitCount 8 = .ok (.isub, 1) := by decide +kernel
theorem d_I_bitCount_9 : decode b_I_bitCount 9 = .ok (.istore_n 0, 1) := by decide +kernel
theorem d_I_bitCount_10 : decode b_I_bitCount 10 = .ok (.iload_n 0, 1) := by decide +kernel
theorem d_I_bitCount_11 : decode b_I_bitCount 11 = .ok (.ldc_w 266, 3) := by decide +kernel
theorem d_I_bitCount_14 : decode b_I_bitCount 14 = .ok (.iand, 1) := by decide +kernel
theorem d_I_bitCount_15 : decode b_I_bitCount 15 = .ok (.iload_n 0, 1) := by decide +kernel
theorem d_I_bitCount_16 : decode b_I_bitCount 16 = .ok (.iconst 2, 1) := by decide +kernel
theorem d_I_bitCount_17 : decode b_I_bitCount 17 = .ok (.iushr, 1) := by decide +kernel
theorem d_I_bitCount_18 : decode b_I_bitCount 18 = .ok (.ldc_w 266, 3) := by decide +kernel
theorem d_I_bitCount_21 : decode b_I_bitCount 21 = .ok (.iand, 1) := by decide +kernel
theorem d_I_bitCount_22 : decode b_I_bitCount 22 = .ok (.iadd, 1) := by decide +kernel
theorem d_I_bitCount_23 : decode b_I_bitCount 23 = .ok (.istore_n 0, 1) := by decide +kernel
theorem d_I_bitCount_24 : decode b_I_bitCount 24 = .ok (.iload_n 0, 1) := by decide +kernel
theorem d_I_bitCount_25 : decode b_I_bitCount 25 = .ok (.iload_n 0, 1) := by decide +kernel
theorem d_I_bitCount_26 : decode b_I_bitCount 26 = .ok (.iconst 4, 1) := by decide +kernel
theorem d_I_bitCount_27 : decode b_I_bitCount 27 = .ok (.iushr, 1) := by decide +kernel
theorem d_I_bitCount_28 : decode b_I_bitCount 28 = .ok (.iadd, 1) := by decide +kernel
theorem d_I_bitCount_29 : decode b_I_bitCount 29 = .ok (.ldc_w 267, 3) := by decide +kernel
theorem d_I_bitCount_32 : decode b_I_bitCount 32 = .ok (.iand, 1) := by decide +kernel
theorem d_I_bitCount_33 : decode b_I_bitCount 33 = .ok (.istore_n 0, 1) := by decide +kernel
theorem d_I_bitCount_34 : decode b_I_bitCount 34 = .ok (.iload_n 0, 1) := by decide +kernel
theorem d_I_bitCount_35 : decode b_I_bitCount 35 = .ok (.iload_n 0, 1) := by decide +kernel
theorem d_I_bitCount_36 : decode b_I_bitCount 36 = .ok (.bipush 8, 2) := by decide +kernel
theorem d_I_bitCount_38 : decode b_I_bitCount 38 = .ok (.iushr, 1) := by decide +kernel
theorem d_I_bitCount_39 : decode b_I_bitCount 39 = .ok (.iadd, 1) := by decide +kernel
theorem d_I_bitCount_40 : decode b_I_bitCount 40 = .ok (.istore_n 0, 1) := by decide +kernel
theorem d_I_bitCount_41 : decode b_I_bitCount 41 = .ok (.iload_n 0, 1) := by decide +kernel
theorem d_I_bitCount_42 : decode b_I_bitCount 42 = .ok (.iload_n 0, 1) := by decide +kernel
theorem d_I_bitCount_43 : decode b_I_bitCount 43 = .ok (.bipush 16, 2) := by decide +kernel
theorem d_I_bitCount_45 : decode b_I_bitCount 45 = .ok (.iushr, 1) := by decide +kernel
theorem d_I_bitCount_46 : decode b_I_bitCount 46 = .ok (.iadd, 1) := by decide +kernel
theorem d_I_bitCount_47 : decode b_I_bitCount 47 = .ok (.istore_n 0, 1) := by decide +kernel
theorem d_I_bitCount_48 : decode b_I_bitCount 48 = .ok (.iload_n 0, 1) := by decide +kernel
theorem d_I_bitCount_49 : decode b_I_bitCount 49 = .ok (.bipush 63, 2) := by decide +kernel
theorem d_I_bitCount_51 : decode b_I_bitCount 51 = .ok (.iand, 1) := by decide +kernel
theorem d_I_bitCount_52 : decode b_I_bitCount 52 = .ok (.ireturn, 1) := by decide +kernel
set_option maxHeartbeats 4000000 in
set_option maxRecDepth 100000 in
theorem c_C_init (l : Launch) (G : gG) (X : va_W) (sz a0 : Nat) (p1 p2 p3 p4 p5 p6 p7 : Int32) : Met l y_C_init w_C_init { frames := 1, cells := 0, slots := 0, locals := 12 } (va_Pc [.ref a0, .int p1, .int p2, .int p3, .int p4, .int p5, .int p6, .int p7] (z_pre G (X ++ [(a0, .inr (0, [.int 0, .int 0, .int 0, .int 0, .int 0, .int 0, .int 0]))]) sz)) (z_Qv0 G (X ++ [(a0, .inr (0, [.int 0, .int 0, .int 0, .int 0, .int 0, .int 0, .int 0]))]) sz (X ++ [(a0, .inr (0, [.int p1, .int p2, .int p3, .int p4, .int p5, .int p6, .int p7]))])) 0 0 (va_A (X ++ [(a0, .inr (0, [.int 0, .int 0, .int 0, .int 0, .int 0, .int 0, .int 0]))]) sz) := by
  refine Met.ofW (cc := b_C_init) (maxL := 8) (ret := none) (by decide) rfl ?_
  intro p e s m args below meth c s₁ B hml hv
  obtain ⟨rfl, hsz, hP, hK, hD0, ham⟩ := hv
  subst hsz
  have hx := B.exec
  have hb := B.bytes
  have hr := B.returns
  have hts : ∀ w ∈ goT, w.before _ s = true := fun w h => atoms_spec (ws := w_C_init) B.pre w (List.mem_cons_of_mem _ h)
  have hg : ∀ w, goB w = true → w.before _ s = true := fun w h => hts w (goI h)
  have hown : s.vm.findClass R_C = some m.cls := findClass_of_methodNamed B.named
  have hlocks := B.notSynchronized
  have hin : meth.name = "<init>" := (name_of_methodNamed B.named B.method).1
  have h0 : z_st G (X ++ [(a0, .inr (0, [.int 0, .int 0, .int 0, .int 0, .int 0, .int 0, .int 0]))]) s := ⟨hK, ham⟩
  have hw : z_wl G (X ++ [(a0, .inr (0, [.int 0, .int 0, .int 0, .int 0, .int 0, .int 0, .int 0]))]) s (X ++ [(a0, .inr (0, [.int 0, .int 0, .int 0, .int 0, .int 0, .int 0, .int 0]))]) s.heap [] := z_0 hP hD0
  have hl := lv_entry ([.ref a0, .int p1, .int p2, .int p3, .int p4, .int p5, .int p6, .int p7]) (n := 8) (Nat.le_of_ble_eq_true rfl)
  rw [lg_entry_eq]
  generalize (lg_sl ([.ref a0, .int p1, .int p2, .int p3, .int p4, .int p5, .int p6, .int p7]) ++ List.replicate (8 - (lg_sl ([.ref a0, .int p1, .int p2, .int p3, .int p4, .int p5, .int p6, .int p7])).length) Slot.unset).toArray = ls at hl ⊢
  have hl : lv_has ls 8 [(0, .ref a0), (1, .int p1), (2, .int p2), (3, .int p3), (4, .int p4), (5, .int p5), (6, .int p6), (7, .int p7)] := hl
  refine lv_aload_n hx hb d_C_init_0 rfl (lv_at hl 0 rfl) ?_
  refine W.objInit hx hb hown (hg (.methodLink R_C 3 objectInit) (by decide +kernel)) (hg (.instanceMethod objectInit) (by decide +kernel)) (hg (.code objectInit ⟨#[0xb1]⟩ 1 none) (by decide +kernel)) rfl (by rw [hml]; exact hl.1) rfl d_C_init_1 (Nat.le_of_ble_eq_true rfl) (Nat.le_of_ble_eq_true rfl) ?_
  refine W.eq (g2 := F0 m 4 ls []) rfl ?_
  refine lv_aload_n hx hb d_C_init_4 rfl (lv_at hl 0 rfl) ?_
  refine lv_iload_n hx hb d_C_init_5 rfl (lv_at hl 1 rfl) ?_
  refine va_putF (D := G.1) (ci := 0) (v := .int p1) (ty := .int) (C := R_C) (T := T_C) (N := 7) hx hb hts in_C ty_C ty_C_ok n_C hown h0.1 hw.1 hw.2.1 hw.2.2 (X.length + 0) (z_lY rfl) rfl 0 (by decide) (hg (.fieldLink R_C 9 "SecureEntry$Certificate" "kind" "I") (by decide +kernel)) (fun _ h9 => h9) rfl hin rfl (by decide +kernel) rfl rfl (Nat.le_of_ble_eq_true rfl) d_C_init_6 (fun H locs hP hD hS => ?_)
  rw [z_sY] at hP hD
  have hw : z_wl G (X ++ [(a0, .inr (0, [.int 0, .int 0, .int 0, .int 0, .int 0, .int 0, .int 0]))]) s (X ++ [(a0, .inr (0, [.int p1, .int 0, .int 0, .int 0, .int 0, .int 0, .int 0]))]) H locs := ⟨hP, hD, hS⟩
  refine lv_aload_n hx hb d_C_init_9 rfl (lv_at hl 0 rfl) ?_
  refine lv_iload_n hx hb d_C_init_10 rfl (lv_at hl 2 rfl) ?_
  refine va_putF (D := G.1) (ci := 0) (v := .int p2) (ty := .int) (C := R_C) (T := T_C) (N := 7) hx hb hts in_C ty_C ty_C_ok n_C hown h0.1 hw.1 hw.2.1 hw.2.2 (X.length + 0) (z_lY rfl) rfl 1 (by decide) (hg (.fieldLink R_C 15 "SecureEntry$Certificate" "issuer" "I") (by decide +kernel)) (fun _ h9 => h9) rfl hin rfl (by decide +kernel) rfl rfl (Nat.le_of_ble_eq_true rfl) d_C_init_11 (fun H locs hP hD hS => ?_)
  rw [z_sY] at hP hD
  have hw : z_wl G (X ++ [(a0, .inr (0, [.int 0, .int 0, .int 0, .int 0, .int 0, .int 0, .int 0]))]) s (X ++ [(a0, .inr (0, [.int p1, .int p2, .int 0, .int 0, .int 0, .int 0, .int 0]))]) H locs := ⟨hP, hD, hS⟩
  refine lv_aload_n hx hb d_C_init_14 rfl (lv_at hl 0 rfl) ?_
  refine lv_iload_n hx hb d_C_init_15 rfl (lv_at hl 3 rfl) ?_
  refine va_putF (D := G.1) (ci := 0) (v := .int p3) (ty := .int) (C := R_C) (T := T_C) (N := 7) hx hb hts in_C ty_C ty_C_ok n_C hown h0.1 hw.1 hw.2.1 hw.2.2 (X.length + 0) (z_lY rfl) rfl 2 (by decide) (hg (.fieldLink R_C 18 "SecureEntry$Certificate" "holder" "I") (by decide +kernel)) (fun _ h9 => h9) rfl hin rfl (by decide +kernel) rfl rfl (Nat.le_of_ble_eq_true rfl) d_C_init_16 (fun H locs hP hD hS => ?_)
  rw [z_sY] at hP hD
  have hw : z_wl G (X ++ [(a0, .inr (0, [.int 0, .int 0, .int 0, .int 0, .int 0, .int 0, .int 0]))]) s (X ++ [(a0, .inr (0, [.int p1, .int p2, .int p3, .int 0, .int 0, .int 0, .int 0]))]) H locs := ⟨hP, hD, hS⟩
  refine lv_aload_n hx hb d_C_init_19 rfl (lv_at hl 0 rfl) ?_
  refine lv_iload hx hb d_C_init_20 (lv_at hl 4 rfl) ?_
  refine va_putF (D := G.1) (ci := 0) (v := .int p4) (ty := .int) (C := R_C) (T := T_C) (N := 7) hx hb hts in_C ty_C ty_C_ok n_C hown h0.1 hw.1 hw.2.1 hw.2.2 (X.length + 0) (z_lY rfl) rfl 3 (by decide) (hg (.fieldLink R_C 21 "SecureEntry$Certificate" "value" "I") (by decide +kernel)) (fun _ h9 => h9) rfl hin rfl (by decide +kernel) rfl rfl (Nat.le_of_ble_eq_true rfl) d_C_init_22 (fun H locs hP hD hS => ?_)
  rw [z_sY] at hP hD
  have hw : z_wl G (X ++ [(a0, .inr (0, [.int 0, .int 0, .int 0, .int 0, .int 0, .int 0, .int 0]))]) s (X ++ [(a0, .inr (0, [.int p1, .int p2, .int p3, .int p4, .int 0, .int 0, .int 0]))]) H locs := ⟨hP, hD, hS⟩
  refine lv_aload_n hx hb d_C_init_25 rfl (lv_at hl 0 rfl) ?_
  refine lv_iload hx hb d_C_init_26 (lv_at hl 5 rfl) ?_
  refine va_putF (D := G.1) (ci := 0) (v := .int p5) (ty := .int) (C := R_C) (T := T_C) (N := 7) hx hb hts in_C ty_C ty_C_ok n_C hown h0.1 hw.1 hw.2.1 hw.2.2 (X.length + 0) (z_lY rfl) rfl 4 (by decide) (hg (.fieldLink R_C 24 "SecureEntry$Certificate" "from" "I") (by decide +kernel)) (fun _ h9 => h9) rfl hin rfl (by decide +kernel) rfl rfl (Nat.le_of_ble_eq_true rfl) d_C_init_28 (fun H locs hP hD hS => ?_)
  rw [z_sY] at hP hD
  have hw : z_wl G (X ++ [(a0, .inr (0, [.int 0, .int 0, .int 0, .int 0, .int 0, .int 0, .int 0]))]) s (X ++ [(a0, .inr (0, [.int p1, .int p2, .int p3, .int p4, .int p5, .int 0, .int 0]))]) H locs := ⟨hP, hD, hS⟩
  refine lv_aload_n hx hb d_C_init_31 rfl (lv_at hl 0 rfl) ?_
  refine lv_iload hx hb d_C_init_32 (lv_at hl 6 rfl) ?_
  refine va_putF (D := G.1) (ci := 0) (v := .int p6) (ty := .int) (C := R_C) (T := T_C) (N := 7) hx hb hts in_C ty_C ty_C_ok n_C hown h0.1 hw.1 hw.2.1 hw.2.2 (X.length + 0) (z_lY rfl) rfl 5 (by decide) (hg (.fieldLink R_C 27 "SecureEntry$Certificate" "to" "I") (by decide +kernel)) (fun _ h9 => h9) rfl hin rfl (by decide +kernel) rfl rfl (Nat.le_of_ble_eq_true rfl) d_C_init_34 (fun H locs hP hD hS => ?_)
  rw [z_sY] at hP hD
  have hw : z_wl G (X ++ [(a0, .inr (0, [.int 0, .int 0, .int 0, .int 0, .int 0, .int 0, .int 0]))]) s (X ++ [(a0, .inr (0, [.int p1, .int p2, .int p3, .int p4, .int p5, .int p6, .int 0]))]) H locs := ⟨hP, hD, hS⟩
  refine lv_aload_n hx hb d_C_init_37 rfl (lv_at hl 0 rfl) ?_
  refine lv_iload hx hb d_C_init_38 (lv_at hl 7 rfl) ?_
  refine va_putF (D := G.1) (ci := 0) (v := .int p7) (ty := .int) (C := R_C) (T := T_C) (N := 7) hx hb hts in_C ty_C ty_C_ok n_C hown h0.1 hw.1 hw.2.1 hw.2.2 (X.length + 0) (z_lY rfl) rfl 6 (by decide) (hg (.fieldLink R_C 30 "SecureEntry$Certificate" "signature" "I") (by decide +kernel)) (fun _ h9 => h9) rfl hin rfl (by decide +kernel) rfl rfl (Nat.le_of_ble_eq_true rfl) d_C_init_40 (fun H locs hP hD hS => ?_)
  rw [z_sY] at hP hD
  have hw : z_wl G (X ++ [(a0, .inr (0, [.int 0, .int 0, .int 0, .int 0, .int 0, .int 0, .int 0]))]) s (X ++ [(a0, .inr (0, [.int p1, .int p2, .int p3, .int p4, .int p5, .int p6, .int p7]))]) H locs := ⟨hP, hD, hS⟩
  exact z_vret (wf := fun _ : Unit => (X ++ [(a0, .inr (0, [.int p1, .int p2, .int p3, .int p4, .int p5, .int p6, .int p7]))])) (post := fun _ => True) (u := ()) (cells := 0) (slots := 0) (mc := 0) (ms := 0) hx hb hr hlocks h0 hw trivial (by decide) (by decide) d_C_init_43
end CON
