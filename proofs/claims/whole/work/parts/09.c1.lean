section CON
set_option maxHeartbeats 4000000 in
set_option maxRecDepth 100000 in
theorem c_S_isEnrolled (l : Launch) (G : gG) (ad : Nat → Nat) (st : CS) (wr : va_W) (sz : Nat) (p1 : Int32) (hp1 : vp_in p1 7) : Met l y_S_isEnrolled w_S_isEnrolled { frames := 0, cells := 0, slots := 0, locals := 0 } (va_Pc [.ref (ad 0), .int p1] (z_pre G (wC ad G st ++ wr) sz)) (z_Qi0 G (wC ad G st ++ wr) sz (wC ad G st ++ wr) (f_isEnrolled st p1)) 0 0 (va_A (wC ad G st ++ wr) sz) := by
  refine Met.ofW (cc := b_S_isEnrolled) (maxL := 2) (ret := (some .boolean)) (by decide) rfl ?_
  intro p e s m args below meth c s₁ B hml hv
  obtain ⟨rfl, hsz, hP, hK, hD0, ham⟩ := hv
  subst hsz
  have hx := B.exec
  have hb := B.bytes
  have hr := B.returns
  have hts : ∀ w ∈ goT, w.before _ s = true := fun w h => atoms_spec (ws := w_S_isEnrolled) B.pre w (List.mem_cons_of_mem _ h)
  have hg : ∀ w, goB w = true → w.before _ s = true := fun w h => hts w (goI h)
  have hown : s.vm.findClass R_S = some m.cls := findClass_of_methodNamed B.named
  have hlocks := B.notSynchronized
  have h0 : z_st G (wC ad G st ++ wr) s := ⟨hK, ham⟩
  have hw : z_wl G (wC ad G st ++ wr) s (wC ad G st ++ wr) s.heap [] := z_0 hP hD0
  have hl := lv_entry ([.ref (ad 0), .int p1]) (n := 2) (Nat.le_of_ble_eq_true rfl)
  rw [lg_entry_eq]
  generalize (lg_sl ([.ref (ad 0), .int p1]) ++ List.replicate (2 - (lg_sl ([.ref (ad 0), .int p1])).length) Slot.unset).toArray = ls at hl ⊢
  have hl : lv_has ls 2 [(0, .ref (ad 0)), (1, .int p1)] := hl
  refine lv_aload_n hx hb d_S_isEnrolled_0 rfl (lv_at hl 0 rfl) ?_
  refine va_get (D := G.1) (ci := 2) (v := .ref (ad 2)) (C := R_S) (T := T_S) (N := 14) hx hb hts in_S hown h0.1 hw.1 0 rfl rfl 1 (by decide) (hg (.fieldLink R_S 21 "SecureEntry" "keys" "[I") (by decide +kernel)) (fun _ h9 => h9) rfl d_S_isEnrolled_1 ?_
  refine lv_iload_n hx hb d_S_isEnrolled_4 rfl (lv_at hl 1 rfl) ?_
  refine va_iald hx hb h0.1 hw.1 2 0 rfl rfl (show vp_in p1 7 by assumption) d_S_isEnrolled_5 ?_
  refine lv_if_eq (tgt := 13) hx hb d_S_isEnrolled_6 (by decide) (fun c_6 => ?_) (fun c_6 => ?_)
  · refine lv_iconst (v := 0) hx hb d_S_isEnrolled_13 (by decide) ?_
    exact z_iret (wf := fun _ : Unit => (wC ad G st ++ wr)) (u := ()) hx hb hr hlocks h0 hw rfl (by rw [f_isEnrolled, if_pos c_6]) (Nat.le_of_ble_eq_true rfl) (Nat.le_of_ble_eq_true rfl) d_S_isEnrolled_14
  · refine lv_iconst (v := 1) hx hb d_S_isEnrolled_9 (by decide) ?_
    refine lv_goto (tgt := 14) hx hb d_S_isEnrolled_10 (by decide) ?_
    exact z_iret (wf := fun _ : Unit => (wC ad G st ++ wr)) (u := ()) hx hb hr hlocks h0 hw rfl (by rw [f_isEnrolled, if_neg c_6]) (Nat.le_of_ble_eq_true rfl) (Nat.le_of_ble_eq_true rfl) d_S_isEnrolled_14
set_option maxHeartbeats 4000000 in
set_option maxRecDepth 100000 in
theorem c_S_rightSignature (l : Launch) (G : gG) (ad : Nat → Nat) (st : CS) (wr : va_W) (sz : Nat) (p1 : Int32) (p2 : Int32) (p3 : Int32) (p4 : Int32) (p5 : Int32) (p6 : Int32) (hp2 : vp_in p2 7) : Met l y_S_rightSignature w_S_rightSignature { frames := 0, cells := 0, slots := 0, locals := 0 } (va_Pc [.ref (ad 0), .int p1, .int p2, .int p3, .int p4, .int p5, .int p6] (z_pre G (wC ad G st ++ wr) sz)) (z_Qi0 G (wC ad G st ++ wr) sz (wC ad G st ++ wr) (f_rightSignature st p1 p2 p3 p4 p5 p6)) 0 0 (va_A (wC ad G st ++ wr) sz) := by
  refine Met.ofW (cc := b_S_rightSignature) (maxL := 8) (ret := (some .int)) (by decide) rfl ?_
  intro p e s m args below meth c s₁ B hml hv
  obtain ⟨rfl, hsz, hP, hK, hD0, ham⟩ := hv
  subst hsz
  have hx := B.exec
  have hb := B.bytes
  have hr := B.returns
  have hts : ∀ w ∈ goT, w.before _ s = true := fun w h => atoms_spec (ws := w_S_rightSignature) B.pre w (List.mem_cons_of_mem _ h)
  have hg : ∀ w, goB w = true → w.before _ s = true := fun w h => hts w (goI h)
  have hown : s.vm.findClass R_S = some m.cls := findClass_of_methodNamed B.named
  have hlocks := B.notSynchronized
  have h0 : z_st G (wC ad G st ++ wr) s := ⟨hK, ham⟩
  have hw : z_wl G (wC ad G st ++ wr) s (wC ad G st ++ wr) s.heap [] := z_0 hP hD0
  have hl := lv_entry ([.ref (ad 0), .int p1, .int p2, .int p3, .int p4, .int p5, .int p6]) (n := 8) (Nat.le_of_ble_eq_true rfl)
  rw [lg_entry_eq]
  generalize (lg_sl ([.ref (ad 0), .int p1, .int p2, .int p3, .int p4, .int p5, .int p6]) ++ List.replicate (8 - (lg_sl ([.ref (ad 0), .int p1, .int p2, .int p3, .int p4, .int p5, .int p6])).length) Slot.unset).toArray = ls at hl ⊢
  have hl : lv_has ls 8 [(0, .ref (ad 0)), (1, .int p1), (2, .int p2), (3, .int p3), (4, .int p4), (5, .int p5), (6, .int p6)] := hl
  refine lv_iload_n hx hb d_S_rightSignature_0 rfl (lv_at hl 1 rfl) ?_
  refine lv_bipush (v := 100) hx hb d_S_rightSignature_1 (by decide) ?_
  refine lv_imul hx hb d_S_rightSignature_3 ?_
  refine lv_iload_n hx hb d_S_rightSignature_4 rfl (lv_at hl 3 rfl) ?_
  refine lv_iadd hx hb d_S_rightSignature_5 ?_
  refine lv_ldc hx hb hown (hg (.constant R_S 234 65536) (by decide +kernel)) d_S_rightSignature_6 ?_
  refine lv_imul hx hb d_S_rightSignature_8 ?_
  refine lv_iload hx hb d_S_rightSignature_9 (lv_at hl 4 rfl) ?_
  refine lv_iadd hx hb d_S_rightSignature_11 ?_
  refine lv_sipush (v := 9973) hx hb d_S_rightSignature_12 (by decide) ?_
  refine lv_irem hx hb d_S_rightSignature_15 (by decide) ?_
  refine lv_iload hx hb d_S_rightSignature_16 (lv_at hl 5 rfl) ?_
  refine lv_bipush (v := 31) hx hb d_S_rightSignature_18 (by decide) ?_
  refine lv_imul hx hb d_S_rightSignature_20 ?_
  refine lv_iadd hx hb d_S_rightSignature_21 ?_
  refine lv_iload hx hb d_S_rightSignature_22 (lv_at hl 6 rfl) ?_
  refine lv_bipush (v := 37) hx hb d_S_rightSignature_24 (by decide) ?_
  refine lv_imul hx hb d_S_rightSignature_26 ?_
  refine lv_iadd hx hb d_S_rightSignature_27 ?_
  refine lv_iconst (v := 1) hx hb d_S_rightSignature_28 (by decide) ?_
  refine lv_iadd hx hb d_S_rightSignature_29 ?_
  refine lv_istore (lv' := [(7, .int ((((((((p1 * 100) + p3) * 65536) + p4) - ((((p1 * 100) + p3) * 65536) + p4) / 9973 * 9973) + (p5 * 31)) + (p6 * 37)) + 1)), (0, .ref (ad 0)), (1, .int p1), (2, .int p2), (3, .int p3), (4, .int p4), (5, .int p5), (6, .int p6)]) hx hb d_S_rightSignature_30 hl (by decide) rfl (fun ls hl => ?_)
  refine lv_iload hx hb d_S_rightSignature_32 (lv_at hl 0 rfl) ?_
  refine lv_i2l hx hb d_S_rightSignature_34 rfl ?_
  refine lv_aload_n hx hb d_S_rightSignature_35 rfl (lv_at hl 1 rfl) ?_
  refine va_get (D := G.1) (ci := 2) (v := .ref (ad 2)) (C := R_S) (T := T_S) (N := 14) hx hb hts in_S hown h0.1 hw.1 0 rfl rfl 1 (by decide) (hg (.fieldLink R_S 21 "SecureEntry" "keys" "[I") (by decide +kernel)) (fun _ h9 => h9) rfl d_S_rightSignature_36 ?_
  refine lv_iload_n hx hb d_S_rightSignature_39 rfl (lv_at hl 3 rfl) ?_
  refine va_iald hx hb h0.1 hw.1 2 0 rfl rfl (show vp_in p2 7 by assumption) d_S_rightSignature_40 ?_
  refine lv_i2l hx hb d_S_rightSignature_41 rfl ?_
  refine lv_lmul hx hb d_S_rightSignature_42 ?_
  refine lv_ldc2 hx hb hown (hg (.constantLong R_S 235 9973) (by decide +kernel)) d_S_rightSignature_43 ?_
  refine lv_lrem hx hb d_S_rightSignature_46 (by decide) ?_
  refine lv_l2i hx hb d_S_rightSignature_47 rfl ?_
  exact z_iret (wf := fun _ : Unit => (wC ad G st ++ wr)) (u := ()) hx hb hr hlocks h0 hw rfl (by rw [f_rightSignature]) (Nat.le_of_ble_eq_true rfl) (Nat.le_of_ble_eq_true rfl) d_S_rightSignature_48
set_option maxHeartbeats 4000000 in
set_option maxRecDepth 100000 in
theorem c_S_certificateOf (l : Launch) (G : gG) (ad : Nat → Nat) (st : CS) (wr : va_W) (sz : Nat) (p1 : Int32) (p2 : Int32) (hp1 : tokOK p1) (hp2 : vp_in p2 4) : Met l y_S_certificateOf w_S_certificateOf { frames := 0, cells := 0, slots := 0, locals := 0 } (va_Pc [.ref (ad 0), .int p1, .int p2] (z_pre G (wC ad G st ++ wr) sz)) (z_Qq0 G (wC ad G st ++ wr) sz (wC ad G st ++ wr) (f_certificateOf st p1 p2)) 0 0 (va_A (wC ad G st ++ wr) sz) := by
  refine Met.ofW (cc := b_S_certificateOf) (maxL := 3) (ret := (some (.object "SecureEntry$Certificate"))) (by decide) rfl ?_
  intro p e s m args below meth c s₁ B hml hv
  obtain ⟨rfl, hsz, hP, hK, hD0, ham⟩ := hv
  subst hsz
  have hx := B.exec
  have hb := B.bytes
  have hr := B.returns
  have hts : ∀ w ∈ goT, w.before _ s = true := fun w h => atoms_spec (ws := w_S_certificateOf) B.pre w (List.mem_cons_of_mem _ h)
  have hg : ∀ w, goB w = true → w.before _ s = true := fun w h => hts w (goI h)
  have hown : s.vm.findClass R_S = some m.cls := findClass_of_methodNamed B.named
  have hlocks := B.notSynchronized
  have h0 : z_st G (wC ad G st ++ wr) s := ⟨hK, ham⟩
  have hw : z_wl G (wC ad G st ++ wr) s (wC ad G st ++ wr) s.heap [] := z_0 hP hD0
  have hl := lv_entry ([.ref (ad 0), .int p1, .int p2]) (n := 3) (Nat.le_of_ble_eq_true rfl)
  rw [lg_entry_eq]
  generalize (lg_sl ([.ref (ad 0), .int p1, .int p2]) ++ List.replicate (3 - (lg_sl ([.ref (ad 0), .int p1, .int p2])).length) Slot.unset).toArray = ls at hl ⊢
  have hl : lv_has ls 3 [(0, .ref (ad 0)), (1, .int p1), (2, .int p2)] := hl
  refine lv_iload_n hx hb d_S_certificateOf_0 rfl (lv_at hl 1 rfl) ?_
  refine lv_iconst (v := (-1)) hx hb d_S_certificateOf_1 (by decide) ?_
  refine lv_icmp_ne (tgt := 9) hx hb d_S_certificateOf_2 (by decide) (fun c_2 => ?_) (fun c_2 => ?_)
  · refine lv_aload_n hx hb d_S_certificateOf_9 rfl (lv_at hl 0 rfl) ?_
    refine va_get (D := G.1) (ci := 2) (v := .ref (ad 3)) (C := R_S) (T := T_S) (N := 14) hx hb hts in_S hown h0.1 hw.1 0 rfl rfl 2 (by decide) (hg (.fieldLink R_S 26 "SecureEntry" "certificates" "[LSecureEntry$Certificate;") (by decide +kernel)) (fun _ h9 => h9) rfl d_S_certificateOf_10 ?_
    refine lv_iload_n hx hb d_S_certificateOf_13 rfl (lv_at hl 1 rfl) ?_
    refine lv_iconst (v := 4) hx hb d_S_certificateOf_14 (by decide) ?_
    refine lv_imul hx hb d_S_certificateOf_15 ?_
    refine lv_iload_n hx hb d_S_certificateOf_16 rfl (lv_at hl 2 rfl) ?_
    refine lv_iadd hx hb d_S_certificateOf_17 ?_
    refine va_aldq hx hb h0.1 hw.1 3 1 rfl rfl (z_ix hp1 c_2 hp2) d_S_certificateOf_18 ?_
    exact z_qret (wf := fun _ : Unit => (wC ad G st ++ wr)) (u := ()) (r := (st.2.2.1 ((p1 * 4) + p2).toNatClampNeg)) hx hb hr (Or.inl ⟨_, rfl⟩) hlocks h0 hw (by rw [f_certificateOf, if_neg c_2]) (Nat.le_of_ble_eq_true rfl) (Nat.le_of_ble_eq_true rfl) d_S_certificateOf_19
  · refine lv_null hx hb d_S_certificateOf_5 ?_
    refine lv_goto (tgt := 19) hx hb d_S_certificateOf_6 (by decide) ?_
    exact z_qret (wf := fun _ : Unit => (wC ad G st ++ wr)) (u := ()) (r := none) hx hb hr (Or.inl ⟨_, rfl⟩) hlocks h0 hw (by rw [f_certificateOf, if_pos c_2]) (Nat.le_of_ble_eq_true rfl) (Nat.le_of_ble_eq_true rfl) d_S_certificateOf_19
set_option maxHeartbeats 4000000 in
set_option maxRecDepth 100000 in
theorem c_C_isFitForItsKind (l : Launch) (G : gG) (ws : va_W) (sz : Nat) (a0 k9 : Nat) (w : Nat → Int32) (hk9 : ws[k9]? = some (a0, .inr (0, [.int (w 0), .int (w 1), .int (w 2), .int (w 3), .int (w 4), .int (w 5), .int (w 6)])))   : Met l y_C_isFitForItsKind w_C_isFitForItsKind { frames := 0, cells := 0, slots := 0, locals := 0 } (va_Pc [.ref a0] (z_pre G ws sz)) (z_Qi0 G ws sz ws (f_isFitForItsKind w)) 0 0 (va_A ws sz) := by
  refine Met.ofW (cc := b_C_isFitForItsKind) (maxL := 1) (ret := (some .boolean)) (by decide) rfl ?_
  intro p e s m args below meth c s₁ B hml hv
  obtain ⟨rfl, hsz, hP, hK, hD0, ham⟩ := hv
  subst hsz
  have hx := B.exec
  have hb := B.bytes
  have hr := B.returns
  have hts : ∀ w ∈ goT, w.before _ s = true := fun w h => atoms_spec (ws := w_C_isFitForItsKind) B.pre w (List.mem_cons_of_mem _ h)
  have hg : ∀ w, goB w = true → w.before _ s = true := fun w h => hts w (goI h)
  have hown : s.vm.findClass R_C = some m.cls := findClass_of_methodNamed B.named
  have hlocks := B.notSynchronized
  have h0 : z_st G ws s := ⟨hK, ham⟩
  have hw : z_wl G ws s ws s.heap [] := z_0 hP hD0
  have hl := lv_entry ([.ref a0]) (n := 1) (Nat.le_of_ble_eq_true rfl)
  rw [lg_entry_eq]
  generalize (lg_sl ([.ref a0]) ++ List.replicate (1 - (lg_sl ([.ref a0])).length) Slot.unset).toArray = ls at hl ⊢
  have hl : lv_has ls 1 [(0, .ref a0)] := hl
  refine lv_aload_n hx hb d_C_isFitForItsKind_0 rfl (lv_at hl 0 rfl) ?_
  refine va_get (D := G.1) (ci := 0) (v := .int (w 0)) (C := R_C) (T := T_C) (N := 7) hx hb hts in_C hown h0.1 hw.1 k9 hk9 rfl 0 (by decide) (hg (.fieldLink R_C 9 "SecureEntry$Certificate" "kind" "I") (by decide +kernel)) (fun _ h9 => h9) rfl d_C_isFitForItsKind_1 ?_
  refine lv_iconst (v := 3) hx hb d_C_isFitForItsKind_4 (by decide) ?_
  refine lv_icmp_ne (tgt := 32) hx hb d_C_isFitForItsKind_5 (by decide) (fun c_5 => ?_) (fun c_5 => ?_)
  · refine lv_aload_n hx hb d_C_isFitForItsKind_32 rfl (lv_at hl 0 rfl) ?_
    refine va_get (D := G.1) (ci := 0) (v := .int (w 0)) (C := R_C) (T := T_C) (N := 7) hx hb hts in_C hown h0.1 hw.1 k9 hk9 rfl 0 (by decide) (hg (.fieldLink R_C 9 "SecureEntry$Certificate" "kind" "I") (by decide +kernel)) (fun _ h9 => h9) rfl d_C_isFitForItsKind_33 ?_
    refine lv_iconst (v := 1) hx hb d_C_isFitForItsKind_36 (by decide) ?_
    refine lv_icmp_ne (tgt := 49) hx hb d_C_isFitForItsKind_37 (by decide) (fun c_37 => ?_) (fun c_37 => ?_)
    · refine lv_iconst (v := 1) hx hb d_C_isFitForItsKind_49 (by decide) ?_
      refine lv_goto (tgt := 54) hx hb d_C_isFitForItsKind_50 (by decide) ?_
      exact z_iret (wf := fun _ : Unit => ws) (u := ()) hx hb hr hlocks h0 hw rfl (by rw [f_isFitForItsKind, if_neg c_5, if_neg c_37]) (Nat.le_of_ble_eq_true rfl) (Nat.le_of_ble_eq_true rfl) d_C_isFitForItsKind_54
    · refine lv_aload_n hx hb d_C_isFitForItsKind_40 rfl (lv_at hl 0 rfl) ?_
      refine va_get (D := G.1) (ci := 0) (v := .int (w 3)) (C := R_C) (T := T_C) (N := 7) hx hb hts in_C hown h0.1 hw.1 k9 hk9 rfl 3 (by decide) (hg (.fieldLink R_C 21 "SecureEntry$Certificate" "value" "I") (by decide +kernel)) (fun _ h9 => h9) rfl d_C_isFitForItsKind_41 ?_
      refine lv_bipush (v := 15) hx hb d_C_isFitForItsKind_44 (by decide) ?_
      refine lv_icmp_gt (tgt := 53) hx hb d_C_isFitForItsKind_46 (by decide) (fun c_46 => ?_) (fun c_46 => ?_)
      · refine lv_iconst (v := 0) hx hb d_C_isFitForItsKind_53 (by decide) ?_
        exact z_iret (wf := fun _ : Unit => ws) (u := ()) hx hb hr hlocks h0 hw rfl (by rw [f_isFitForItsKind, if_neg c_5, if_pos c_37, if_pos c_46]) (Nat.le_of_ble_eq_true rfl) (Nat.le_of_ble_eq_true rfl) d_C_isFitForItsKind_54
      · refine lv_iconst (v := 1) hx hb d_C_isFitForItsKind_49 (by decide) ?_
        refine lv_goto (tgt := 54) hx hb d_C_isFitForItsKind_50 (by decide) ?_
        exact z_iret (wf := fun _ : Unit => ws) (u := ()) hx hb hr hlocks h0 hw rfl (by rw [f_isFitForItsKind, if_neg c_5, if_pos c_37, if_neg c_46]) (Nat.le_of_ble_eq_true rfl) (Nat.le_of_ble_eq_true rfl) d_C_isFitForItsKind_54
  · refine lv_aload_n hx hb d_C_isFitForItsKind_8 rfl (lv_at hl 0 rfl) ?_
    refine va_get (D := G.1) (ci := 0) (v := .int (w 1)) (C := R_C) (T := T_C) (N := 7) hx hb hts in_C hown h0.1 hw.1 k9 hk9 rfl 1 (by decide) (hg (.fieldLink R_C 15 "SecureEntry$Certificate" "issuer" "I") (by decide +kernel)) (fun _ h9 => h9) rfl d_C_isFitForItsKind_9 ?_
    refine lv_bipush (v := 6) hx hb d_C_isFitForItsKind_12 (by decide) ?_
    refine lv_icmp_ne (tgt := 30) hx hb d_C_isFitForItsKind_14 (by decide) (fun c_14 => ?_) (fun c_14 => ?_)
    · refine lv_iconst (v := 0) hx hb d_C_isFitForItsKind_30 (by decide) ?_
      exact z_iret (wf := fun _ : Unit => ws) (u := ()) hx hb hr hlocks h0 hw rfl (by rw [f_isFitForItsKind, if_pos c_5, if_neg c_14]) (Nat.le_of_ble_eq_true rfl) (Nat.le_of_ble_eq_true rfl) d_C_isFitForItsKind_31
    · refine lv_aload_n hx hb d_C_isFitForItsKind_17 rfl (lv_at hl 0 rfl) ?_
      refine va_get (D := G.1) (ci := 0) (v := .int (w 3)) (C := R_C) (T := T_C) (N := 7) hx hb hts in_C hown h0.1 hw.1 k9 hk9 rfl 3 (by decide) (hg (.fieldLink R_C 21 "SecureEntry$Certificate" "value" "I") (by decide +kernel)) (fun _ h9 => h9) rfl d_C_isFitForItsKind_18 ?_
      refine lv_bipush (v := 15) hx hb d_C_isFitForItsKind_21 (by decide) ?_
      refine lv_icmp_gt (tgt := 30) hx hb d_C_isFitForItsKind_23 (by decide) (fun c_23 => ?_) (fun c_23 => ?_)
      · refine lv_iconst (v := 0) hx hb d_C_isFitForItsKind_30 (by decide) ?_
        exact z_iret (wf := fun _ : Unit => ws) (u := ()) hx hb hr hlocks h0 hw rfl (by rw [f_isFitForItsKind, if_pos c_5, if_pos c_14, if_pos c_23]) (Nat.le_of_ble_eq_true rfl) (Nat.le_of_ble_eq_true rfl) d_C_isFitForItsKind_31
      · refine lv_iconst (v := 1) hx hb d_C_isFitForItsKind_26 (by decide) ?_
        refine lv_goto (tgt := 31) hx hb d_C_isFitForItsKind_27 (by decide) ?_
        exact z_iret (wf := fun _ : Unit => ws) (u := ()) hx hb hr hlocks h0 hw rfl (by rw [f_isFitForItsKind, if_pos c_5, if_pos c_14, if_neg c_23]) (Nat.le_of_ble_eq_true rfl) (Nat.le_of_ble_eq_true rfl) d_C_isFitForItsKind_31
set_option maxHeartbeats 4000000 in
set_option maxRecDepth 100000 in
theorem c_C_clearance (l : Launch) (G : gG) (ws : va_W) (sz : Nat) (a0 k9 : Nat) (w : Nat → Int32) (hk9 : ws[k9]? = some (a0, .inr (0, [.int (w 0), .int (w 1), .int (w 2), .int (w 3), .int (w 4), .int (w 5), .int (w 6)])))   : Met l y_C_clearance w_C_clearance { frames := 0, cells := 0, slots := 0, locals := 0 } (va_Pc [.ref a0] (z_pre G ws sz)) (z_Qi0 G ws sz ws (f_clearance w)) 0 0 (va_A ws sz) := by
  refine Met.ofW (cc := b_C_clearance) (maxL := 1) (ret := (some .int)) (by decide) rfl ?_
  intro p e s m args below meth c s₁ B hml hv
  obtain ⟨rfl, hsz, hP, hK, hD0, ham⟩ := hv
  subst hsz
  have hx := B.exec
  have hb := B.bytes
  have hr := B.returns
  have hts : ∀ w ∈ goT, w.before _ s = true := fun w h => atoms_spec (ws := w_C_clearance) B.pre w (List.mem_cons_of_mem _ h)
  have hg : ∀ w, goB w = true → w.before _ s = true := fun w h => hts w (goI h)
  have hown : s.vm.findClass R_C = some m.cls := findClass_of_methodNamed B.named
  have hlocks := B.notSynchronized
  have h0 : z_st G ws s := ⟨hK, ham⟩
  have hw : z_wl G ws s ws s.heap [] := z_0 hP hD0
  have hl := lv_entry ([.ref a0]) (n := 1) (Nat.le_of_ble_eq_true rfl)
  rw [lg_entry_eq]
  generalize (lg_sl ([.ref a0]) ++ List.replicate (1 - (lg_sl ([.ref a0])).length) Slot.unset).toArray = ls at hl ⊢
  have hl : lv_has ls 1 [(0, .ref a0)] := hl
  refine lv_aload_n hx hb d_C_clearance_0 rfl (lv_at hl 0 rfl) ?_
  refine va_get (D := G.1) (ci := 0) (v := .int (w 3)) (C := R_C) (T := T_C) (N := 7) hx hb hts in_C hown h0.1 hw.1 k9 hk9 rfl 3 (by decide) (hg (.fieldLink R_C 21 "SecureEntry$Certificate" "value" "I") (by decide +kernel)) (fun _ h9 => h9) rfl d_C_clearance_1 ?_
  refine lv_iconst (v := 4) hx hb d_C_clearance_4 (by decide) ?_
  refine lv_idiv hx hb d_C_clearance_5 (by decide) ?_
  exact z_iret (wf := fun _ : Unit => ws) (u := ()) hx hb hr hlocks h0 hw rfl (by rw [f_clearance]) (Nat.le_of_ble_eq_true rfl) (Nat.le_of_ble_eq_true rfl) d_C_clearance_6
set_option maxHeartbeats 4000000 in
set_option maxRecDepth 100000 in
theorem c_C_role (l : Launch) (G : gG) (ws : va_W) (sz : Nat) (a0 k9 : Nat) (w : Nat → Int32) (hk9 : ws[k9]? = some (a0, .inr (0, [.int (w 0), .int (w 1), .int (w 2), .int (w 3), .int (w 4), .int (w 5), .int (w 6)])))   : Met l y_C_role w_C_role { frames := 0, cells := 0, slots := 0, locals := 0 } (va_Pc [.ref a0] (z_pre G ws sz)) (z_Qi0 G ws sz ws (f_role w)) 0 0 (va_A ws sz) := by
  refine Met.ofW (cc := b_C_role) (maxL := 1) (ret := (some .int)) (by decide) rfl ?_
  intro p e s m args below meth c s₁ B hml hv
  obtain ⟨rfl, hsz, hP, hK, hD0, ham⟩ := hv
  subst hsz
  have hx := B.exec
  have hb := B.bytes
  have hr := B.returns
  have hts : ∀ w ∈ goT, w.before _ s = true := fun w h => atoms_spec (ws := w_C_role) B.pre w (List.mem_cons_of_mem _ h)
  have hg : ∀ w, goB w = true → w.before _ s = true := fun w h => hts w (goI h)
  have hown : s.vm.findClass R_C = some m.cls := findClass_of_methodNamed B.named
  have hlocks := B.notSynchronized
  have h0 : z_st G ws s := ⟨hK, ham⟩
  have hw : z_wl G ws s ws s.heap [] := z_0 hP hD0
  have hl := lv_entry ([.ref a0]) (n := 1) (Nat.le_of_ble_eq_true rfl)
  rw [lg_entry_eq]
  generalize (lg_sl ([.ref a0]) ++ List.replicate (1 - (lg_sl ([.ref a0])).length) Slot.unset).toArray = ls at hl ⊢
  have hl : lv_has ls 1 [(0, .ref a0)] := hl
  refine lv_aload_n hx hb d_C_role_0 rfl (lv_at hl 0 rfl) ?_
  refine va_get (D := G.1) (ci := 0) (v := .int (w 3)) (C := R_C) (T := T_C) (N := 7) hx hb hts in_C hown h0.1 hw.1 k9 hk9 rfl 3 (by decide) (hg (.fieldLink R_C 21 "SecureEntry$Certificate" "value" "I") (by decide +kernel)) (fun _ h9 => h9) rfl d_C_role_1 ?_
  refine lv_iconst (v := 4) hx hb d_C_role_4 (by decide) ?_
  refine lv_irem hx hb d_C_role_5 (by decide) ?_
  exact z_iret (wf := fun _ : Unit => ws) (u := ()) hx hb hr hlocks h0 hw rfl (by rw [f_role]) (Nat.le_of_ble_eq_true rfl) (Nat.le_of_ble_eq_true rfl) d_C_role_6
end CON
