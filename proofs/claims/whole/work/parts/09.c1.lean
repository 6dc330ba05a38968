section CON
set_option maxHeartbeats 4000000 in
set_option maxRecDepth 100000 in
theorem c_S_isEnrolled (l : Launch) (G : gG) (ad : Nat → Nat) (st : CS) (wr : va_W) (sz : Nat) (p1 : Int32) (hp1 : vp_in p1 7) : Met l y_S_isEnrolled w_S_isEnrolled { frames := 0, cells := 0, slots := 0, locals := 0 } (va_Pc [.ref (ad 0), .int p1] (z_pre G (wC ad G st ++ wr) sz)) (z_Qi0 G (wC ad G st ++ wr) sz (wC ad G st ++ wr) (f_isEnrolled st p1)) 0 0 (va_A (wC ad G st ++ wr) sz) := by
  refine Met.ofW (cc := b_S_isEnrolled) (maxL := 2) (ret := (some .boolean)) (by decide) rfl ?_
  intro p e s m args below meth c s₁ B hml hv
  obtain ⟨rfl, hsz, hP, hK, hD0, ham⟩ := hv
  subst hsz
  have hx := B.exec
  have hb := B.bytes
  have hr := B.returns
  have hts : ∀ w ∈ goT, w.before _ s = true := fun w h => atoms_spec (ws := w_S_isEnrolled) B.pre w (List.mem_cons_of_mem _ h)
  have hg : ∀ w, goB w = true → w.before _ s = true := fun w h => hts w (goI h)
  have hown : s.vm.findClass R_S = some m.cls := findClass_of_methodNamed B.named
  have hlocks := B.notSynchronized
  have h0 : z_st G (wC ad G st ++ wr) s := ⟨hK, ham⟩
  have hw : z_wl G (wC ad G st ++ wr) s (wC ad G st ++ wr) s.heap [] := z_0 hP hD0
  have hl := lv_entry ([.ref (ad 0), .int p1]) (n := 2) (Nat.le_of_ble_eq_true rfl)
  rw [lg_entry_eq]
  generalize (lg_sl ([.ref (ad 0), .int p1]) ++ List.replicate (2 - (lg_sl ([.ref (ad 0), .int p1])).length) Slot.unset).toArray = ls at hl ⊢
  have hl : lv_has ls 2 [(0, .ref (ad 0)), (1, .int p1)] := hl
  refine lv_aload_n hx hb d_S_isEnrolled_0 rfl (lv_at hl 0 rfl) ?_
  refine va_get (D := G.1) (ci := 2) (v := .ref (ad 2)) (C := R_S) (T := T_S) (N := 14) hx hb hts in_S hown h0.1 hw.1 0 rfl rfl 1 (by decide) (hg (.fieldLink R_S 21 "SecureEntry" "keys" "[I") (by decide +kernel)) (fun _ h9 => h9) rfl d_S_isEnrolled_1 ?_
  refine lv_iload_n hx hb d_S_isEnrolled_4 rfl (lv_at hl 1 rfl) ?_
  refine va_iald hx hb h0.1 hw.1 2 0 rfl rfl (show vp_in p1 7 by assumption) d_S_isEnrolled_5 ?_
  refine lv_if_eq (tgt := 13) hx hb d_S_isEnrolled_6 (by decide) (fun c_6 => ?_) (fun c_6 => ?_)
  · refine lv_iconst (v := 0) hx hb d_S_isEnrolled_13 (by decide) ?_
    exact z_iret (wf := fun _ : Unit => (wC ad G st ++ wr)) (u := ()) hx hb hr hlocks h0 hw rfl (by rw [f_isEnrolled, if_pos c_6]) (Nat.le_of_ble_eq_true rfl) (Nat.le_of_ble_eq_true rfl) d_S_isEnrolled_14
  · refine lv_iconst (v := 1) hx hb d_S_isEnrolled_9 (by decide) ?_
    refine lv_goto (tgt := 14) hx hb d_S_isEnrolled_10 (by decide) ?_
    exact z_iret (wf := fun _ : Unit => (wC ad G st ++ wr)) (u := ()) hx hb hr hlocks h0 hw rfl (by rw [f_isEnrolled, if_neg c_6]) (Nat.le_of_ble_eq_true rfl) (Nat.le_of_ble_eq_true rfl) d_S_isEnrolled_14
set_option maxHeartbeats 4000000 in
set_option maxRecDepth 100000 in
theorem c_S_rightSignature (l : Launch) (G : gG) (ad : Nat → Nat) (st : CS) (wr : va_W) (sz : Nat) (p1 : Int32) (p2 : Int32) (p3 : Int32) (p4 : Int32) (p5 : Int32) (p6 : Int32) (hp2 : vp_in p2 7) : Met l y_S_rightSignature w_S_rightSignature { frames := 0, cells := 0, slots := 0, locals := 0 } (va_Pc [.ref (ad 0), .int p1, .int p2, .int p3, .int p4, .int p5, .int p6] (z_pre G (wC ad G st ++ wr) sz)) (z_Qi0 G (wC ad G st ++ wr) sz (wC ad G st ++ wr) (f_rightSignature st p1 p2 p3 p4 p5 p6)) 0 0 (va_A (wC ad G st ++ wr) sz) := by
  refine Met.ofW (cc := b_S_rightSignature) (maxL := 8) (ret := (some .int)) (by decide) rfl ?_
  intro p e s m args below meth c s₁ B hml hv
  obtain ⟨rfl, hsz, hP, hK, hD0, ham⟩ := hv
  subst hsz
  have hx := B.exec
  have hb := B.bytes
  have hr := B.returns
  have hts : ∀ w ∈ goT, w.before _ s = true := fun w h => atoms_spec (ws := w_S_rightSignature) B.pre w (List.mem_cons_of_mem _ h)
  have hg : ∀ w, goB w = true → w.before _ s = true := fun w h => hts w (goI h)
  have hown : s.vm.findClass R_S = some m.cls := findClass_of_methodNamed B.named
  have hlocks := B.notSynchronized
  have h0 : z_st G (wC ad G st ++ wr) s := ⟨hK, ham⟩
  have hw : z_wl G (wC ad G st ++ wr) s (wC ad G st ++ wr) s.heap [] := z_0 hP hD0
  have hl := lv_entry ([.ref (ad 0), .int p1, .int p2, .int p3, .int p4, .int p5, .int p6]) (n := 8) (Nat.le_of_ble_eq_true rfl)
  rw [lg_entry_eq]
  generalize (lg_sl ([.ref (ad 0), .int p1, .int p2, .int p3, .int p4, .int p5, .int p6]) ++ List.replicate (8 - (lg_sl ([.ref (ad 0), .int p1, .int p2, .int p3, .int p4, .int p5, .int p6])).length) Slot.unset).toArray = ls at hl ⊢
  have hl : lv_has ls 8 [(0, .ref (ad 0)), (1, .int p1), (2, .int p2), (3, .int p3), (4, .int p4), (5, .int p5), (6, .int p6)] := hl
  refine lv_iload_n hx hb d_S_rightSignature_0 rfl (lv_at hl 1 rfl) ?_
  refine lv_bipush (v := 100) hx hb d_S_rightSignature_1 (by decide) ?_
  refine lv_imul hx hb d_S_rightSignature_3 ?_
  refine lv_iload_n hx hb d_S_rightSignature_4 rfl (lv_at hl 3 rfl) ?_
  refine lv_iadd hx hb d_S_rightSignature_5 ?_
  refine lv_ldc hx hb hown (hg (.constant R_S 234 65536) (by decide +kernel)) d_S_rightSignature_6 ?_
  refine lv_imul hx hb d_S_rightSignature_8 ?_
  refine lv_iload hx hb d_S_rightSignature_9 (lv_at hl 4 rfl) ?_
  refine lv_iadd hx hb d_S_rightSignature_11 ?_
  refine lv_sipush (v := 9973) hx hb d_S_rightSignature_12 (by decide) ?_
  refine lv_irem hx hb d_S_rightSignature_15 (by decide) ?_
  refine lv_iload hx hb d_S_rightSignature_16 (lv_at hl 5 rfl) ?_
  refine lv_bipush (v := 31) hx hb d_S_rightSignature_18 (by decide) ?_
  refine lv_imul hx hb d_S_rightSignature_20 ?_
  refine lv_iadd hx hb d_S_rightSignature_21 ?_
  refine lv_iload hx hb d_S_rightSignature_22 (lv_at hl 6 rfl) ?_
  refine lv_bipush (v := 37) hx hb d_S_rightSignature_24 (by decide) ?_
  refine lv_imul hx hb d_S_rightSignature_26 ?_
  refine lv_iadd hx hb d_S_rightSignature_27 ?_
  refine lv_iconst (v := 1) hx hb d_S_rightSignature_28 (by decide) ?_
  refine lv_iadd hx hb d_S_rightSignature_29 ?_
  refine lv_istore (lv' := [(7, .int ((((((((p1 * 100) + p3) * 65536) + p4) - ((((p1 * 100) + p3) * 65536) + p4) / 9973 * 9973) + (p5 * 31)) + (p6 * 37)) + 1)), (0, .ref (ad 0)), (1, .int p1), (2, .int p2), (3, .int p3), (4, .int p4), (5, .int p5), (6, .int p6)]) hx hb d_S_rightSignature_30 hl (by decide) rfl (fun ls hl => ?_)
  refine lv_iload hx hb d_S_rightSignature_32 (lv_at hl 0 rfl) ?_
  refine lv_i2l hx hb d_S_rightSignature_34 rfl ?_
  refine lv_aload_n hx hb d_S_rightSignature_35 rfl (lv_at hl 1 rfl) ?_
  refine va_get (D := G.1) (ci := 2) (v := .ref (ad 2)) (C := R_S) (T := T_S) (N := 14) hx hb hts in_S hown h0.1 hw.1 0 rfl rfl 1 (by decide) (hg (.fieldLink R_S 21 "SecureEntry" "keys" "[I") (by decide +kernel)) (fun _ h9 => h9) rfl d_S_rightSignature_36 ?_
  refine lv_iload_n hx hb d_S_rightSignature_39 rfl (lv_at hl 3 rfl) ?_
  refine va_iald hx hb h0.1 hw.1 2 0 rfl rfl (show vp_in p2 7 by assumption) d_S_rightSignature_40 ?_
  refine lv_i2l hx hb d_S_rightSignature_41 rfl ?_
  refine lv_lmul hx hb d_S_rightSignature_42 ?_
  refine lv_ldc2 hx hb hown (hg (.constantLong R_S 235 9973) (by decide +kernel)) d_S_rightSignature_43 ?_
  refine lv_lrem hx hb d_S_rightSignature_46 (by decide) ?_
  refine lv_l2i hx hb d_S_rightSignature_47 rfl ?_
  exact z_iret (wf := fun _ : Unit => (wC ad G st ++ wr)) (u := ()) hx hb hr hlocks h0 hw rfl (by rw [f_rightSignature]) (Nat.le_of_ble_eq_true rfl) (Nat.le_of_ble_eq_true rfl) d_S_rightSignature_48
set_option maxHeartbeats 4000000 in
set_option maxRecDepth 100000 in
theorem c_S_certificateOf (l : Launch) (G : gG) (ad : Nat → Nat) (st : CS) (wr : va_W) (sz : Nat) (p1 : Int32) (p2 : Int32) (hp1 : tokOK p1) (hp2 : vp_in p2 4) : Met l y_S_certificateOf w_S_certificateOf { frames := 0, cells := 0, slots := 0, locals := 0 } (va_Pc [.ref (ad 0), .int p1, .int p2] (z_pre G (wC ad G st ++ wr) sz)) (z_Qq0 G (wC ad G st ++ wr) sz (wC ad G st ++ wr) (f_certificateOf st p1 p2)) 0 0 (va_A (wC ad G st ++ wr) sz) := by
  refine Met.ofW (cc := b_S_certificateOf) (maxL := 3) (ret := (some (.object "SecureEntry$Certificate"))) (by decide) rfl ?_
  intro p e s m args below meth c s₁ B hml hv
  obtain ⟨rfl, hsz, hP, hK, hD0, ham⟩ := hv
  subst hsz
  have hx := B.exec
  have hb := B.bytes
  have hr := B.returns
  have hts : ∀ w ∈ goT, w.before _ s = true := fun w h => atoms_spec (ws := w_S_certificateOf) B.pre w (List.mem_cons_of_mem _ h)
  have hg : ∀ w, goB w = true → w.before _ s = true := fun w h => hts w (goI h)
  have hown : s.vm.findClass R_S = some m.cls := findClass_of_methodNamed B.named
  have hlocks := B.notSynchronized
  have h0 : z_st G (wC ad G st ++ wr) s := ⟨hK, ham⟩
  have hw : z_wl G (wC ad G st ++ wr) s (wC ad G st ++ wr) s.heap [] := z_0 hP hD0
  have hl := lv_entry ([.ref (ad 0), .int p1, .int p2]) (n := 3) (Nat.le_of_ble_eq_true rfl)
  rw [lg_entry_eq]
  generalize (lg_sl ([.ref (ad 0), .int p1, .int p2]) ++ List.replicate (3 - (lg_sl ([.ref (ad 0), .int p1, .int p2])).length) Slot.unset).toArray = ls at hl ⊢
  have hl : lv_has ls 3 [(0, .ref (ad 0)), (1, .int p1), (2, .int p2)] := hl
  refine lv_iload_n hx hb d_S_certificateOf_0 rfl (lv_at hl 1 rfl) ?_
  refine lv_iconst (v := (-1)) hx hb d_S_certificateOf_1 (by decide) ?_
  refine lv_icmp_ne (tgt := 9) hx hb d_S_certificateOf_2 (by decide) (fun c_2 => ?_) (fun c_2 => ?_)
  · refine lv_aload_n hx hb d_S_certificateOf_9 rfl (lv_at hl 0 rfl) ?_
    refine va_get (D := G.1) (ci := 2) (v := .ref (ad 3)) (C := R_S) (T := T_S) (N := 14) hx hb hts in_S hown h0.1 hw.1 0 rfl rfl 2 (by decide) (hg (.fieldLink R_S 26 "SecureEntry" "certificates" "[LSecureEntry$Certificate;") (by decide +kernel)) (fun _ h9 => h9) rfl d_S_certificateOf_10 ?_
    refine lv_iload_n hx hb d_S_certificateOf_13 rfl (lv_at hl 1 rfl) ?_
    refine lv_iconst (v := 4) hx hb d_S_certificateOf_14 (by decide) ?_
    refine lv_imul hx hb d_S_certificateOf_15 ?_
    refine lv_iload_n hx hb d_S_certificateOf_16 rfl (lv_at hl 2 rfl) ?_
    refine lv_iadd hx hb d_S_certificateOf_17 ?_
    refine va_aldq hx hb h0.1 hw.1 3 1 rfl rfl (z_ix hp1 c_2 hp2) d_S_certificateOf_18 ?_
    exact z_qret (wf := fun _ : Unit => (wC ad G st ++ wr)) (u := ()) (r := (st.2.2.1 ((p1 * 4) + p2).toNatClampNeg)) hx hb hr (Or.inl ⟨_, rfl⟩) hlocks h0 hw (by rw [f_certificateOf, if_neg c_2]) (Nat.le_of_ble_eq_true rfl) (Nat.le_of_ble_eq_true rfl) d_S_certificateOf_19
  · refine lv_null hx hb d_S_certificateOf_5 ?_
    refine lv_goto (tgt := 19) hx hb d_S_certificateOf_6 (by decide) ?_
    exact z_qret (wf := fun _ : Unit => (wC ad G st ++ wr)) (u := ()) (r := none) hx hb hr (Or.inl ⟨_, rfl⟩) hlocks h0 hw (by rw [f_certificateOf, if_pos c_2]) (Nat.le_of_ble_eq_true rfl) (Nat.le_of_ble_eq_true rfl) d_S_certificateOf_19
set_option maxHeartbeats 4000000 in
set_option maxRecDepth 100000 in
theorem c_C_isFitForItsKind (l : Launch) (G : gG) (ws : va_W) (sz : Nat) (a0 k9 : Nat) (w : Nat → Int32) (hk9 : ws[k9]? = some (a0, .inr (0, [.int (w 0), .int (w 1), .int (w 2), .int (w 3), .int (w 4), .int (w 5), .int (w 6)])))   : Met l y_C_isFitForItsKind w_C_isFitForItsKind { frames := 0, cells := 0, slots := 0, locals := 0 } (va_Pc [.ref a0] (z_pre G ws sz)) (z_Qi0 G ws sz ws (f_isFitForItsKind w)) 0 0 (va_A ws sz) := by
  refine Met.ofW (cc := b_C_isFitForItsKind) (maxL := 1) (ret := (some .boolean)) (by decide) rfl ?_
  intro p e s m args below meth c s₁ B hml hv
  obtain ⟨rfl, hsz, hP, hK, hD0, ham⟩ := hv
  subst hsz
  have hx := B.exec
  have hb := B.bytes
  have hr := B.returns
  have hts : ∀ w ∈ goT, w.before _ s = true := fun w h => atoms_spec (ws := w_C_isFitForItsKind) B.pre w (List.mem_cons_of_mem _ h)
  have hg : ∀ w, goB w = true → w.before _ s = true := fun w h => hts w (goI h)
  have hown : s.vm.findClass R_C = some m.cls := findClass_of_methodNamed B.named
  have hlocks := B.notSynchronized
  have h0 : z_st G ws s := ⟨hK, ham⟩
  have hw : z_wl G ws s ws s.heap [] := z_0 hP hD0
  have hl := lv_entry ([.ref a0]) (n := 1) (Nat.le_of_ble_eq_true rfl)
  rw [lg_entry_eq]
  generalize (lg_sl ([.ref a0]) ++ List.replicate (1 - (lg_sl ([.ref a0])).length) Slot.unset).toArray = ls at hl ⊢
  have hl : lv_has ls 1 [(0, .ref a0)] := hl
  refine lv_aload_n hx hb d_C_isFitForItsKind_0 rfl (lv_at hl 0 rfl) ?_
  refine va_get (D := G.1) (ci := 0) (v := .int (w 0)) (C := R_C) (T := T_C) (N := 7) hx hb hts in_C hown h0.1 hw.1 k9 hk9 rfl 0 (by decide) (hg (.fieldLink R_C 9 "SecureEntry$Certificate" "kind" "I") (by decide +kernel)) (fun _ h9 => h9) rfl d_C_isFitForItsKind_1 ?_
  refine lv_iconst (v := 3) hx hb d_C_isFitForItsKind_4 (by decide) ?_
  refine lv_icmp_ne (tgt := 32) hx hb d_C_isFitForItsKind_5 (by decide) (fun c_5 => ?_) (fun c_5 => ?_)
  · refine lv_aload_n hx hb d_C_isFitForItsKind_32 rfl (lv_at hl 0 rfl) ?_
    refine va_get (D := G.1) (ci := 0) (v := .int (w 0)) (C := R_C) (T := T_C) (N := 7) hx hb hts in_C hown h0.1 hw.1 k9 hk9 rfl 0 (by decide) (hg (.fieldLink R_C 9 "SecureEntry$Certificate" "kind" "I") (by decide +kernel)) (fun _ h9 => h9) rfl d_C_isFitForItsKind_33 ?_
    refine lv_iconst (v := 1) hx hb d_C_isFitForItsKind_36 (by decide) ?_
    refine lv_icmp_ne (tgt := 49) hx hb d_C_isFitForItsKind_37 (by decide) (fun c_37 => ?_) (fun c_37 => ?_)
    · refine lv_iconst (v := 1) hx hb d_C_isFitForItsKind_49 (by decide) ?_
      refine lv_goto (tgt := 54) hx hb d_C_isFitForItsKind_50 (by decide) ?_
      exact z_iret (wf := fun _ : Unit => ws) (u := ()) hx hb hr hlocks h0 hw rfl (by rw [f_isFitForItsKind, if_neg c_5, if_neg c_37]) (Nat.le_of_ble_eq_true rfl) (Nat.le_of_ble_eq_true rfl) d_C_isFitForItsKind_54
    · refine lv_aload_n hx hb d_C_isFitForItsKind_40 rfl (lv_at hl 0 rfl) ?_
      refine va_get (D := G.1) (ci := 0) (v := .int (w 3)) (C := R_C) (T := T_C) (N := 7) hx hb hts in_C hown h0.1 hw.1 k9 hk9 rfl 3 (by decide) (hg (.fieldLink R_C 21 "SecureEntry$Certificate" "value" "I") (by decide +kernel)) (fun _ h9 => h9) rfl d_C_isFitForItsKind_41 ?_
      refine lv_bipush (v := 15) hx hb d_C_isFitForItsKind_44 (by decide) ?_
      refine lv_icmp_gt (tgt := 53) hx hb d_C_isFitForItsKind_46 (by decide) (fun c_46 => ?_) (fun c_46 => ?_)
      · refine lv_iconst (v := 0) hx hb d_C_isFitForItsKind_53 (by decide) ?_
        exact z_iret (wf := fun _ : Unit => ws) (u := ()) hx hb hr hlocks h0 hw rfl (by rw [f_isFitForItsKind, if_neg c_5, if_pos c_37, if_pos c_46]) (Nat.le_of_ble_eq_true rfl) (Nat.le_of_ble_eq_true rfl) d_C_isFitForItsKind_54
      · refine lv_iconst (v := 1) hx hb d_C_isFitForItsKind_49 (by decide) ?_
        refine lv_goto (tgt := 54) hx hb d_C_isFitForItsKind_50 (by decide) ?_
        exact z_iret (wf := fun _ : Unit => ws) (u := ()) hx hb hr hlocks h0 hw rfl (by rw [f_isFitForItsKind, if_neg c_5, if_pos c_37, if_neg c_46]) (Nat.le_of_ble_eq_true rfl) (Nat.le_of_ble_eq_true rfl) d_C_isFitForItsKind_54
  · refine lv_aload_n hx hb d_C_isFitForItsKind_8 rfl (lv_at hl 0 rfl) ?_
    refine va_get (D := G.1) (ci := 0) (v := .int (w 1)) (C := R_C) (T := T_C) (N := 7) hx hb hts in_C hown h0.1 hw.1 k9 hk9 rfl 1 (by decide) (hg (.fieldLink R_C 15 "SecureEntry$Certificate" "issuer" "I") (by decide +kernel)) (fun _ h9 => h9) rfl d_C_isFitForItsKind_9 ?_
    refine lv_bipush (v := 6) hx hb d_C_isFitForItsKind_12 (by decide) ?_
    refine lv_icmp_ne (tgt := 30) hx hb d_C_isFitForItsKind_14 (by decide) (fun c_14 => ?_) (fun c_14 => ?_)
    · refine lv_iconst (v := 0) hx hb d_C_isFitForItsKind_30 (by decide) ?_
      exact z_iret (wf := fun _ : Unit => ws) (u := ()) hx hb hr hlocks h0 hw rfl (by rw [f_isFitForItsKind, if_pos c_5, if_neg c_14]) (Nat.le_of_ble_eq_true rfl) (Nat.le_of_ble_eq_true rfl) d_C_isFitForItsKind_31
    · refine lv_aload_n hx hb d_C_isFitForItsKind_17 rfl (lv_at hl 0 rfl) ?_
      refine va_get (D := G.1) (ci := 0) (v := .int (w 3)) (C := R_C) (T := T_C) (N := 7) hx hb hts in_C hown h0.1 hw.1 k9 hk9 rfl 3 (by decide) (hg (.fieldLink R_C 21 "SecureEntry$Certificate" "value" "I") (by decide +kernel)) (fun _ h9 => h9) rfl d_C_isFitForItsKind_18 ?_
      refine lv_bipush (v := 15) hx hb d_C_isFitForItsKind_21 (by decide) ?_
      refine lv_icmp_gt (tgt := 30) hx hb d_C_isFitForItsKind_23 (by decide) (fun c_23 => ?_) (fun c_23 => ?_)
      · refine lv_iconst (v := 0) hx hb d_C_isFitForItsKind_30 (by decide) ?_
        exact z_iret (wf := fun _ : Unit => ws) (u := ()) hx hb hr hlocks h0 hw rfl (by rw [f_isFitForItsKind, if_pos c_5, if_pos c_14, if_pos c_23]) (Nat.le_of_ble_eq_true rfl) (Nat.le_of_ble_eq_true rfl) d_C_isFitForItsKind_31
      · refine lv_iconst (v := 1) hx hb d_C_isFitForItsKind_26 (by decide) ?_
        refine lv_goto (tgt := 31) hx hb d_C_isFitForItsKind_27 (by decide) ?_
        exact z_iret (wf := fun _ : Unit => ws) (u := ()) hx hb hr hlocks h0 hw rfl (by rw [f_isFitForItsKind, if_pos c_5, if_pos c_14, if_neg c_23]) (Nat.le_of_ble_eq_true rfl) (Nat.le_of_ble_eq_true rfl) d_C_isFitForItsKind_31
set_option maxHeartbeats 4000000 in
set_option maxRecDepth 100000 in
theorem c_C_clearance (l : Launch) (G : gG) (ws : va_W) (sz : Nat) (a0 k9 : Nat) (w : Nat → Int32) (hk9 : ws[k9]? = some (a0, .inr (0, [.int (w 0), .int (w 1), .int (w 2), .int (w 3), .int (w 4), .int (w 5), .int (w 6)])))   : Met l y_C_clearance w_C_clearance { frames := 0, cells := 0, slots := 0, locals := 0 } (va_Pc [.ref a0] (z_pre G ws sz)) (z_Qi0 G ws sz ws (f_clearance w)) 0 0 (va_A ws sz) := by
  refine Met.ofW (cc := b_C_clearance) (maxL := 1) (ret := (some .int)) (by decide) rfl ?_
  intro p e s m args below meth c s₁ B hml hv
  obtain ⟨rfl, hsz, hP, hK, hD0, ham⟩ := hv
  subst hsz
  have hx := B.exec
  have hb := B.bytes
  have hr := B.returns
  have hts : ∀ w ∈ goT, w.before _ s = true := fun w h => atoms_spec (ws := w_C_clearance) B.pre w (List.mem_cons_of_mem _ h)
  have hg : ∀ w, goB w = true → w.before _ s = true := fun w h => hts w (goI h)
  have hown : s.vm.findClass R_C = some m.cls := findClass_of_methodNamed B.named
  have hlocks := B.notSynchronized
  have h0 : z_st G ws s := ⟨hK, ham⟩
  have hw : z_wl G ws s ws s.heap [] := z_0 hP hD0
  have hl := lv_entry ([.ref a0]) (n := 1) (Nat.le_of_ble_eq_true rfl)
  rw [lg_entry_eq]
  generalize (lg_sl ([.ref a0]) ++ List.replicate (1 - (lg_sl ([.ref a0])).length) Slot.unset).toArray = ls at hl ⊢
  have hl : lv_has ls 1 [(0, .ref a0)] := hl
  refine lv_aload_n hx hb d_C_clearance_0 rfl (lv_at hl 0 rfl) ?_
  refine va_get (D := G.1) (ci := 0) (v := .int (w 3)) (C := R_C) (T := T_C) (N := 7) hx hb hts in_C hown h0.1 hw.1 k9 hk9 rfl 3 (by decide) (hg (.fieldLink R_C 21 "SecureEntry$Certificate" "value" "I") (by decide +kernel)) (fun _ h9 => h9) rfl d_C_clearance_1 ?_
  refine lv_iconst (v := 4) hx hb d_C_clearance_4 (by decide) ?_
  refine lv_idiv hx hb d_C_clearance_5 (by decide) ?_
  exact z_iret (wf := fun _ : Unit => ws) (u := ()) hx hb hr hlocks h0 hw rfl (by rw [f_clearance]) (Nat.le_of_ble_eq_true rfl) (Nat.le_of_ble_eq_true rfl) d_C_clearance_6
set_option maxHeartbeats 4000000 in
set_option maxRecDepth 100000 in
theorem c_C_role (l : Launch) (G : gG) (ws : va_W) (sz : Nat) (a0 k9 : Nat) (w : Nat → Int32) (hk9 : ws[k9]? = some (a0, .inr (0, [.int (w 0), .int (w 1), .int (w 2), .int (w 3), .int (w 4), .int (w 5), .int (w 6)])))   : Met l y_C_role w_C_role { frames := 0, cells := 0, slots := 0, locals := 0 } (va_Pc [.ref a0] (z_pre G ws sz)) (z_Qi0 G ws sz ws (f_role w)) 0 0 (va_A ws sz) := by
  refine Met.ofW (cc := b_C_role) (maxL := 1) (ret := (some .int)) (by decide) rfl ?_
  intro p e s m args below meth c s₁ B hml hv
  obtain ⟨rfl, hsz, hP, hK, hD0, ham⟩ := hv
  subst hsz
  have hx := B.exec
  have hb := B.bytes
  have hr := B.returns
  have hts : ∀ w ∈ goT, w.before _ s = true := fun w h => atoms_spec (ws := w_C_role) B.pre w (List.mem_cons_of_mem _ h)
  have hg : ∀ w, goB w = true → w.before _ s = true := fun w h => hts w (goI h)
  have hown : s.vm.findClass R_C = some m.cls := findClass_of_methodNamed B.named
  have hlocks := B.notSynchronized
  have h0 : z_st G ws s := ⟨hK, ham⟩
  have hw : z_wl G ws s ws s.heap [] := z_0 hP hD0
  have hl := lv_entry ([.ref a0]) (n := 1) (Nat.le_of_ble_eq_true rfl)
  rw [lg_entry_eq]
  generalize (lg_sl ([.ref a0]) ++ List.replicate (1 - (lg_sl ([.ref a0])).length) Slot.unset).toArray = ls at hl ⊢
  have hl : lv_has ls 1 [(0, .ref a0)] := hl
  refine lv_aload_n hx hb d_C_role_0 rfl (lv_at hl 0 rfl) ?_
  refine va_get (D := G.1) (ci := 0) (v := .int (w 3)) (C := R_C) (T := T_C) (N := 7) hx hb hts in_C hown h0.1 hw.1 k9 hk9 rfl 3 (by decide) (hg (.fieldLink R_C 21 "SecureEntry$Certificate" "value" "I") (by decide +kernel)) (fun _ h9 => h9) rfl d_C_role_1 ?_
  refine lv_iconst (v := 4) hx hb d_C_role_4 (by decide) ?_
  refine lv_irem hx hb d_C_role_5 (by decide) ?_
  exact z_iret (wf := fun _ : Unit => ws) (u := ()) hx hb hr hlocks h0 hw rfl (by rw [f_role]) (Nat.le_of_ble_eq_true rfl) (Nat.le_of_ble_eq_true rfl) d_C_role_6
set_option maxHeartbeats 4000000 in
set_option maxRecDepth 100000 in
theorem c_S_isValid (l : Launch) (G : gG) (ad : Nat → Nat) (st : CS) (wr : va_W) (sz : Nat) (q1 : Option Nat) (hI : InvC st) (hq : ∀ a, q1 = some a → a ∈ st.2.2.2.1) : Met l y_S_isValid w_S_isValid { frames := 1, cells := 0, slots := 0, locals := 27 } (va_Pc [.ref (ad 0), va_rf q1] (z_pre G (wC ad G st ++ wr) sz)) (z_Qi0 G (wC ad G st ++ wr) sz (wC ad G st ++ wr) (f_isValid st q1)) 0 0 (va_A (wC ad G st ++ wr) sz) := by
  refine Met.ofW (cc := b_S_isValid) (maxL := 2) (ret := (some .boolean)) (by decide) rfl ?_
  intro p e s m args below meth c s₁ B hml hv
  obtain ⟨rfl, hsz, hP, hK, hD0, ham⟩ := hv
  subst hsz
  have hx := B.exec
  have hb := B.bytes
  have hr := B.returns
  have hts : ∀ w ∈ goT, w.before _ s = true := fun w h => atoms_spec (ws := w_S_isValid) B.pre w (List.mem_cons_of_mem _ h)
  have hg : ∀ w, goB w = true → w.before _ s = true := fun w h => hts w (goI h)
  have hown : s.vm.findClass R_S = some m.cls := findClass_of_methodNamed B.named
  have hlocks := B.notSynchronized
  have h0 : z_st G (wC ad G st ++ wr) s := ⟨hK, ham⟩
  have hw : z_wl G (wC ad G st ++ wr) s (wC ad G st ++ wr) s.heap [] := z_0 hP hD0
  have hl := lv_entry ([.ref (ad 0), va_rf q1]) (n := 2) (by cases q1 <;> exact Nat.le_of_ble_eq_true rfl)
  rw [lg_entry_eq]
  generalize (lg_sl ([.ref (ad 0), va_rf q1]) ++ List.replicate (2 - (lg_sl ([.ref (ad 0), va_rf q1])).length) Slot.unset).toArray = ls at hl ⊢
  have hl : lv_has ls 2 [(0, .ref (ad 0)), (1, va_rf q1)] := by cases q1 <;> exact hl
  refine z_aload_n (r := q1) hx hb d_S_isValid_0 rfl (lv_at hl 1 rfl) ?_
  refine z_ifnull (r := q1) (tgt := 79) hx hb d_S_isValid_1 (by decide) (fun e_1 => ?_) (fun a_1 e_1 => ?_)
  · have hl : lv_has ls 2 [(0, .ref (ad 0)), (1, .null)] := by rw [e_1] at hl; exact hl
    refine lv_iconst (v := 0) hx hb d_S_isValid_79 (by decide) ?_
    exact z_iret (wf := fun _ : Unit => (wC ad G st ++ wr)) (u := ()) hx hb hr hlocks h0 hw rfl (by rw [f_isValid, e_1, oel_none]) (Nat.le_of_ble_eq_true rfl) (Nat.le_of_ble_eq_true rfl) d_S_isValid_80
  · have hl : lv_has ls 2 [(0, .ref (ad 0)), (1, .ref a_1)] := by rw [e_1] at hl; exact hl
    have hm_a_1 : a_1 ∈ st.2.2.2.1 := hq _ e_1
    refine lv_aload_n hx hb d_S_isValid_4 rfl (lv_at hl 0 rfl) ?_
    refine lv_aload_n hx hb d_S_isValid_5 rfl (lv_at hl 1 rfl) ?_
    obtain ⟨k_6, hk_6⟩ := z_pool (ad := ad) (G := G) (wr := wr) (st := st) hm_a_1
    refine va_get (D := G.1) (ci := 0) (v := .int (st.2.2.2.2 a_1 1)) (C := R_C) (T := T_C) (N := 7) hx hb hts in_C hown h0.1 hw.1 k_6 hk_6 rfl 1 (by decide) (hg (.fieldLink R_S 202 "SecureEntry$Certificate" "issuer" "I") (by decide +kernel)) (fun _ h9 => h9) rfl d_S_isValid_6 ?_
    refine z_Vi0 (As := [.int (st.2.2.2.2 a_1 1)]) (v := (f_isEnrolled st (st.2.2.2.2 a_1 1))) ⟨hx, hb, hml, hown, hts⟩ (c_S_isEnrolled l G ad st wr _ (st.2.2.2.2 a_1 1) (by first | assumption | exact hI.2.2.2.1 | exact hI.2.2.2.2 | (unfold vp_in; decide) | exact Or.inr (by assumption) | exact cof_mem hI | (intro a h; cases h; assumption) | exact (hI.2.1 _ (by assumption)).1)) (cwV 1 hts gV_S_57 rfl rfl rfl (by decide +kernel) ⟨Nat.le_of_ble_eq_true rfl, Nat.le_of_ble_eq_true rfl⟩) h0 hw 0 rfl rfl rfl rfl hl.1 rfl (Nat.le_of_ble_eq_true rfl) d_S_isValid_9 ⟨Nat.le_of_ble_eq_true rfl, Nat.le_of_ble_eq_true rfl⟩ (fun H locs hw => ?_)
    refine lv_if_eq (tgt := 79) hx hb d_S_isValid_12 (by decide) (fun c_12 => ?_) (fun c_12 => ?_)
    · refine lv_iconst (v := 0) hx hb d_S_isValid_79 (by decide) ?_
      exact z_iret (wf := fun _ : Unit => (wC ad G st ++ wr)) (u := ()) hx hb hr hlocks h0 hw rfl (by rw [f_isValid, e_1, oel_some, if_pos c_12]) (Nat.le_of_ble_eq_true rfl) (Nat.le_of_ble_eq_true rfl) d_S_isValid_80
    · refine lv_aload_n hx hb d_S_isValid_15 rfl (lv_at hl 0 rfl) ?_
      refine va_get (D := G.1) (ci := 2) (v := .int (st.1 4)) (C := R_S) (T := T_S) (N := 14) hx hb hts in_S hown h0.1 hw.1 0 rfl rfl 4 (by decide) (hg (.fieldLink R_S 101 "SecureEntry" "time" "I") (by decide +kernel)) (fun _ h9 => h9) rfl d_S_isValid_16 ?_
      refine lv_aload_n hx hb d_S_isValid_19 rfl (lv_at hl 1 rfl) ?_
      obtain ⟨k_20, hk_20⟩ := z_pool (ad := ad) (G := G) (wr := wr) (st := st) hm_a_1
      refine va_get (D := G.1) (ci := 0) (v := .int (st.2.2.2.2 a_1 4)) (C := R_C) (T := T_C) (N := 7) hx hb hts in_C hown h0.1 hw.1 k_20 hk_20 rfl 4 (by decide) (hg (.fieldLink R_S 208 "SecureEntry$Certificate" "from" "I") (by decide +kernel)) (fun _ h9 => h9) rfl d_S_isValid_20 ?_
      refine lv_aload_n hx hb d_S_isValid_23 rfl (lv_at hl 1 rfl) ?_
      obtain ⟨k_24, hk_24⟩ := z_pool (ad := ad) (G := G) (wr := wr) (st := st) hm_a_1
      refine va_get (D := G.1) (ci := 0) (v := .int (st.2.2.2.2 a_1 5)) (C := R_C) (T := T_C) (N := 7) hx hb hts in_C hown h0.1 hw.1 k_24 hk_24 rfl 5 (by decide) (hg (.fieldLink R_S 211 "SecureEntry$Certificate" "to" "I") (by decide +kernel)) (fun _ h9 => h9) rfl d_S_isValid_24 ?_
      refine z_Si0 (As := [.int (st.1 4), .int (st.2.2.2.2 a_1 4), .int (st.2.2.2.2 a_1 5)]) (v := (f_isWithin (st.1 4) (st.2.2.2.2 a_1 4) (st.2.2.2.2 a_1 5))) ⟨hx, hb, hml, hown, hts⟩ (c_S_isWithin l G (wC ad G st ++ wr) _ (st.1 4) (st.2.2.2.2 a_1 4) (st.2.2.2.2 a_1 5)) (cwS 3 hts gS_S_69 rfl rfl rfl (by decide +kernel) ⟨Nat.le_of_ble_eq_true rfl, Nat.le_of_ble_eq_true rfl⟩) h0 hw rfl hl.1 rfl (Nat.le_of_ble_eq_true rfl) d_S_isValid_27 ⟨Nat.le_of_ble_eq_true rfl, Nat.le_of_ble_eq_true rfl⟩ (fun H locs hw => ?_)
      refine lv_if_eq (tgt := 79) hx hb d_S_isValid_30 (by decide) (fun c_30 => ?_) (fun c_30 => ?_)
      · refine lv_iconst (v := 0) hx hb d_S_isValid_79 (by decide) ?_
        exact z_iret (wf := fun _ : Unit => (wC ad G st ++ wr)) (u := ()) hx hb hr hlocks h0 hw rfl (by rw [f_isValid, e_1, oel_some, if_neg c_12, if_pos c_30]) (Nat.le_of_ble_eq_true rfl) (Nat.le_of_ble_eq_true rfl) d_S_isValid_80
      · refine lv_aload_n hx hb d_S_isValid_33 rfl (lv_at hl 1 rfl) ?_
        obtain ⟨k_34, hk_34⟩ := z_pool (ad := ad) (G := G) (wr := wr) (st := st) hm_a_1
        refine z_Vi0 (As := []) (v := (f_isFitForItsKind (st.2.2.2.2 a_1))) ⟨hx, hb, hml, hown, hts⟩ (c_C_isFitForItsKind l G (wC ad G st ++ wr) _ a_1 k_34 (st.2.2.2.2 a_1) hk_34) (cwV 0 hts gV_S_240 rfl rfl rfl (by decide +kernel) ⟨Nat.le_of_ble_eq_true rfl, Nat.le_of_ble_eq_true rfl⟩) h0 hw k_34 hk_34 rfl rfl rfl hl.1 rfl (Nat.le_of_ble_eq_true rfl) d_S_isValid_34 ⟨Nat.le_of_ble_eq_true rfl, Nat.le_of_ble_eq_true rfl⟩ (fun H locs hw => ?_)
        refine lv_if_eq (tgt := 79) hx hb d_S_isValid_37 (by decide) (fun c_37 => ?_) (fun c_37 => ?_)
        · refine lv_iconst (v := 0) hx hb d_S_isValid_79 (by decide) ?_
          exact z_iret (wf := fun _ : Unit => (wC ad G st ++ wr)) (u := ()) hx hb hr hlocks h0 hw rfl (by rw [f_isValid, e_1, oel_some, if_neg c_12, if_neg c_30, if_pos c_37]) (Nat.le_of_ble_eq_true rfl) (Nat.le_of_ble_eq_true rfl) d_S_isValid_80
        · refine lv_aload_n hx hb d_S_isValid_40 rfl (lv_at hl 1 rfl) ?_
          obtain ⟨k_41, hk_41⟩ := z_pool (ad := ad) (G := G) (wr := wr) (st := st) hm_a_1
          refine va_get (D := G.1) (ci := 0) (v := .int (st.2.2.2.2 a_1 6)) (C := R_C) (T := T_C) (N := 7) hx hb hts in_C hown h0.1 hw.1 k_41 hk_41 rfl 6 (by decide) (hg (.fieldLink R_S 214 "SecureEntry$Certificate" "signature" "I") (by decide +kernel)) (fun _ h9 => h9) rfl d_S_isValid_41 ?_
          refine lv_aload_n hx hb d_S_isValid_44 rfl (lv_at hl 0 rfl) ?_
          refine lv_aload_n hx hb d_S_isValid_45 rfl (lv_at hl 1 rfl) ?_
          obtain ⟨k_46, hk_46⟩ := z_pool (ad := ad) (G := G) (wr := wr) (st := st) hm_a_1
          refine va_get (D := G.1) (ci := 0) (v := .int (st.2.2.2.2 a_1 0)) (C := R_C) (T := T_C) (N := 7) hx hb hts in_C hown h0.1 hw.1 k_46 hk_46 rfl 0 (by decide) (hg (.fieldLink R_S 237 "SecureEntry$Certificate" "kind" "I") (by decide +kernel)) (fun _ h9 => h9) rfl d_S_isValid_46 ?_
          refine lv_aload_n hx hb d_S_isValid_49 rfl (lv_at hl 1 rfl) ?_
          obtain ⟨k_50, hk_50⟩ := z_pool (ad := ad) (G := G) (wr := wr) (st := st) hm_a_1
          refine va_get (D := G.1) (ci := 0) (v := .int (st.2.2.2.2 a_1 1)) (C := R_C) (T := T_C) (N := 7) hx hb hts in_C hown h0.1 hw.1 k_50 hk_50 rfl 1 (by decide) (hg (.fieldLink R_S 202 "SecureEntry$Certificate" "issuer" "I") (by decide +kernel)) (fun _ h9 => h9) rfl d_S_isValid_50 ?_
          refine lv_aload_n hx hb d_S_isValid_53 rfl (lv_at hl 1 rfl) ?_
          obtain ⟨k_54, hk_54⟩ := z_pool (ad := ad) (G := G) (wr := wr) (st := st) hm_a_1
          refine va_get (D := G.1) (ci := 0) (v := .int (st.2.2.2.2 a_1 2)) (C := R_C) (T := T_C) (N := 7) hx hb hts in_C hown h0.1 hw.1 k_54 hk_54 rfl 2 (by decide) (hg (.fieldLink R_S 205 "SecureEntry$Certificate" "holder" "I") (by decide +kernel)) (fun _ h9 => h9) rfl d_S_isValid_54 ?_
          refine lv_aload_n hx hb d_S_isValid_57 rfl (lv_at hl 1 rfl) ?_
          obtain ⟨k_58, hk_58⟩ := z_pool (ad := ad) (G := G) (wr := wr) (st := st) hm_a_1
          refine va_get (D := G.1) (ci := 0) (v := .int (st.2.2.2.2 a_1 3)) (C := R_C) (T := T_C) (N := 7) hx hb hts in_C hown h0.1 hw.1 k_58 hk_58 rfl 3 (by decide) (hg (.fieldLink R_S 131 "SecureEntry$Certificate" "value" "I") (by decide +kernel)) (fun _ h9 => h9) rfl d_S_isValid_58 ?_
          refine lv_aload_n hx hb d_S_isValid_61 rfl (lv_at hl 1 rfl) ?_
          obtain ⟨k_62, hk_62⟩ := z_pool (ad := ad) (G := G) (wr := wr) (st := st) hm_a_1
          refine va_get (D := G.1) (ci := 0) (v := .int (st.2.2.2.2 a_1 4)) (C := R_C) (T := T_C) (N := 7) hx hb hts in_C hown h0.1 hw.1 k_62 hk_62 rfl 4 (by decide) (hg (.fieldLink R_S 208 "SecureEntry$Certificate" "from" "I") (by decide +kernel)) (fun _ h9 => h9) rfl d_S_isValid_62 ?_
          refine lv_aload_n hx hb d_S_isValid_65 rfl (lv_at hl 1 rfl) ?_
          obtain ⟨k_66, hk_66⟩ := z_pool (ad := ad) (G := G) (wr := wr) (st := st) hm_a_1
          refine va_get (D := G.1) (ci := 0) (v := .int (st.2.2.2.2 a_1 5)) (C := R_C) (T := T_C) (N := 7) hx hb hts in_C hown h0.1 hw.1 k_66 hk_66 rfl 5 (by decide) (hg (.fieldLink R_S 211 "SecureEntry$Certificate" "to" "I") (by decide +kernel)) (fun _ h9 => h9) rfl d_S_isValid_66 ?_
          refine z_Vi0 (As := [.int (st.2.2.2.2 a_1 0), .int (st.2.2.2.2 a_1 1), .int (st.2.2.2.2 a_1 2), .int (st.2.2.2.2 a_1 3), .int (st.2.2.2.2 a_1 4), .int (st.2.2.2.2 a_1 5)]) (v := (f_rightSignature st (st.2.2.2.2 a_1 0) (st.2.2.2.2 a_1 1) (st.2.2.2.2 a_1 2) (st.2.2.2.2 a_1 3) (st.2.2.2.2 a_1 4) (st.2.2.2.2 a_1 5))) ⟨hx, hb, hml, hown, hts⟩ (c_S_rightSignature l G ad st wr _ (st.2.2.2.2 a_1 0) (st.2.2.2.2 a_1 1) (st.2.2.2.2 a_1 2) (st.2.2.2.2 a_1 3) (st.2.2.2.2 a_1 4) (st.2.2.2.2 a_1 5) (by first | assumption | exact hI.2.2.2.1 | exact hI.2.2.2.2 | (unfold vp_in; decide) | exact Or.inr (by assumption) | exact cof_mem hI | (intro a h; cases h; assumption) | exact (hI.2.1 _ (by assumption)).1)) (cwV 6 hts gV_S_61 rfl rfl rfl (by decide +kernel) ⟨Nat.le_of_ble_eq_true rfl, Nat.le_of_ble_eq_true rfl⟩) h0 hw 0 rfl rfl rfl rfl hl.1 rfl (Nat.le_of_ble_eq_true rfl) d_S_isValid_69 ⟨Nat.le_of_ble_eq_true rfl, Nat.le_of_ble_eq_true rfl⟩ (fun H locs hw => ?_)
          refine lv_icmp_ne (tgt := 79) hx hb d_S_isValid_72 (by decide) (fun c_72 => ?_) (fun c_72 => ?_)
          · refine lv_iconst (v := 0) hx hb d_S_isValid_79 (by decide) ?_
            exact z_iret (wf := fun _ : Unit => (wC ad G st ++ wr)) (u := ()) hx hb hr hlocks h0 hw rfl (by rw [f_isValid, e_1, oel_some, if_neg c_12, if_neg c_30, if_neg c_37, if_neg c_72]) (Nat.le_of_ble_eq_true rfl) (Nat.le_of_ble_eq_true rfl) d_S_isValid_80
          · refine lv_iconst (v := 1) hx hb d_S_isValid_75 (by decide) ?_
            refine lv_goto (tgt := 80) hx hb d_S_isValid_76 (by decide) ?_
            exact z_iret (wf := fun _ : Unit => (wC ad G st ++ wr)) (u := ()) hx hb hr hlocks h0 hw rfl (by rw [f_isValid, e_1, oel_some, if_neg c_12, if_neg c_30, if_neg c_37, if_pos c_72]) (Nat.le_of_ble_eq_true rfl) (Nat.le_of_ble_eq_true rfl) d_S_isValid_80
set_option maxHeartbeats 4000000 in
set_option maxRecDepth 100000 in
theorem c_S_isValidForIdHolder (l : Launch) (G : gG) (ad : Nat → Nat) (st : CS) (wr : va_W) (sz : Nat) (p1 : Int32) (p2 : Int32) (hI : InvC st) (hp1 : tokOK p1) (hp2 : vp_in p2 4) : Met l y_S_isValidForIdHolder w_S_isValidForIdHolder { frames := 2, cells := 0, slots := 0, locals := 48 } (va_Pc [.ref (ad 0), .int p1, .int p2] (z_pre G (wC ad G st ++ wr) sz)) (z_Qi0 G (wC ad G st ++ wr) sz (wC ad G st ++ wr) (f_isValidForIdHolder st p1 p2)) 0 0 (va_A (wC ad G st ++ wr) sz) := by
  refine Met.ofW (cc := b_S_isValidForIdHolder) (maxL := 5) (ret := (some .boolean)) (by decide) rfl ?_
  intro p e s m args below meth c s₁ B hml hv
  obtain ⟨rfl, hsz, hP, hK, hD0, ham⟩ := hv
  subst hsz
  have hx := B.exec
  have hb := B.bytes
  have hr := B.returns
  have hts : ∀ w ∈ goT, w.before _ s = true := fun w h => atoms_spec (ws := w_S_isValidForIdHolder) B.pre w (List.mem_cons_of_mem _ h)
  have hg : ∀ w, goB w = true → w.before _ s = true := fun w h => hts w (goI h)
  have hown : s.vm.findClass R_S = some m.cls := findClass_of_methodNamed B.named
  have hlocks := B.notSynchronized
  have h0 : z_st G (wC ad G st ++ wr) s := ⟨hK, ham⟩
  have hw : z_wl G (wC ad G st ++ wr) s (wC ad G st ++ wr) s.heap [] := z_0 hP hD0
  have hl := lv_entry ([.ref (ad 0), .int p1, .int p2]) (n := 5) (Nat.le_of_ble_eq_true rfl)
  rw [lg_entry_eq]
  generalize (lg_sl ([.ref (ad 0), .int p1, .int p2]) ++ List.replicate (5 - (lg_sl ([.ref (ad 0), .int p1, .int p2])).length) Slot.unset).toArray = ls at hl ⊢
  have hl : lv_has ls 5 [(0, .ref (ad 0)), (1, .int p1), (2, .int p2)] := hl
  refine lv_aload_n hx hb d_S_isValidForIdHolder_0 rfl (lv_at hl 0 rfl) ?_
  refine lv_iload_n hx hb d_S_isValidForIdHolder_1 rfl (lv_at hl 1 rfl) ?_
  refine lv_iconst (v := 0) hx hb d_S_isValidForIdHolder_2 (by decide) ?_
  refine z_Vq0 (As := [.int p1, .int 0]) (v := (f_certificateOf st p1 0)) ⟨hx, hb, hml, hown, hts⟩ (c_S_certificateOf l G ad st wr _ p1 0 (by first | assumption | exact hI.2.2.2.1 | exact hI.2.2.2.2 | (unfold vp_in; decide) | exact Or.inr (by assumption) | exact cof_mem hI | (intro a h; cases h; assumption) | exact (hI.2.1 _ (by assumption)).1) (by first | assumption | exact hI.2.2.2.1 | exact hI.2.2.2.2 | (unfold vp_in; decide) | exact Or.inr (by assumption) | exact cof_mem hI | (intro a h; cases h; assumption) | exact (hI.2.1 _ (by assumption)).1)) (cwV 2 hts gV_S_76 rfl rfl rfl (by decide +kernel) ⟨Nat.le_of_ble_eq_true rfl, Nat.le_of_ble_eq_true rfl⟩) h0 hw 0 rfl rfl rfl rfl hl.1 rfl (Nat.le_of_ble_eq_true rfl) d_S_isValidForIdHolder_3 ⟨Nat.le_of_ble_eq_true rfl, Nat.le_of_ble_eq_true rfl⟩ (fun H locs hw => ?_)
  refine z_astore_n (r := (f_certificateOf st p1 0)) (lv' := [(3, va_rf (f_certificateOf st p1 0)), (0, .ref (ad 0)), (1, .int p1), (2, .int p2)]) hx hb d_S_isValidForIdHolder_6 rfl hl (by decide) rfl (fun ls hl => ?_)
  refine lv_aload_n hx hb d_S_isValidForIdHolder_7 rfl (lv_at hl 1 rfl) ?_
  refine lv_iload_n hx hb d_S_isValidForIdHolder_8 rfl (lv_at hl 2 rfl) ?_
  refine lv_iload_n hx hb d_S_isValidForIdHolder_9 rfl (lv_at hl 3 rfl) ?_
  refine z_Vq0 (As := [.int p1, .int p2]) (v := (f_certificateOf st p1 p2)) ⟨hx, hb, hml, hown, hts⟩ (c_S_certificateOf l G ad st wr _ p1 p2 (by first | assumption | exact hI.2.2.2.1 | exact hI.2.2.2.2 | (unfold vp_in; decide) | exact Or.inr (by assumption) | exact cof_mem hI | (intro a h; cases h; assumption) | exact (hI.2.1 _ (by assumption)).1) (by first | assumption | exact hI.2.2.2.1 | exact hI.2.2.2.2 | (unfold vp_in; decide) | exact Or.inr (by assumption) | exact cof_mem hI | (intro a h; cases h; assumption) | exact (hI.2.1 _ (by assumption)).1)) (cwV 2 hts gV_S_76 rfl rfl rfl (by decide +kernel) ⟨Nat.le_of_ble_eq_true rfl, Nat.le_of_ble_eq_true rfl⟩) h0 hw 0 rfl rfl rfl rfl hl.1 rfl (Nat.le_of_ble_eq_true rfl) d_S_isValidForIdHolder_10 ⟨Nat.le_of_ble_eq_true rfl, Nat.le_of_ble_eq_true rfl⟩ (fun H locs hw => ?_)
  refine z_astore (r := (f_certificateOf st p1 p2)) (lv' := [(4, va_rf (f_certificateOf st p1 p2)), (3, va_rf (f_certificateOf st p1 0)), (0, .ref (ad 0)), (1, .int p1), (2, .int p2)]) hx hb d_S_isValidForIdHolder_13 hl (by decide) (by simp [z_cat]) (fun ls hl => ?_)
  refine z_aload_n (r := (f_certificateOf st p1 0)) hx hb d_S_isValidForIdHolder_15 rfl (lv_at hl 1 rfl) ?_
  refine z_ifnull (r := (f_certificateOf st p1 0)) (tgt := 57) hx hb d_S_isValidForIdHolder_16 (by decide) (fun e_16 => ?_) (fun a_16 e_16 => ?_)
  · have hl : lv_has ls 5 [(4, va_rf (f_certificateOf st p1 p2)), (3, .null), (0, .ref (ad 0)), (1, .int p1), (2, .int p2)] := by rw [e_16] at hl; exact hl
    refine lv_iconst (v := 0) hx hb d_S_isValidForIdHolder_57 (by decide) ?_
    exact z_iret (wf := fun _ : Unit => (wC ad G st ++ wr)) (u := ()) hx hb hr hlocks h0 hw rfl (by rw [f_isValidForIdHolder, e_16, oel_none]) (Nat.le_of_ble_eq_true rfl) (Nat.le_of_ble_eq_true rfl) d_S_isValidForIdHolder_58
  · have hl : lv_has ls 5 [(4, va_rf (f_certificateOf st p1 p2)), (3, .ref a_16), (0, .ref (ad 0)), (1, .int p1), (2, .int p2)] := by rw [e_16] at hl; exact hl
    have hm_a_16 : a_16 ∈ st.2.2.2.1 := cof_mem hI _ e_16
    refine z_aload (r := (f_certificateOf st p1 p2)) hx hb d_S_isValidForIdHolder_19 (lv_at hl 0 rfl) ?_
    refine z_ifnull (r := (f_certificateOf st p1 p2)) (tgt := 57) hx hb d_S_isValidForIdHolder_21 (by decide) (fun e_21 => ?_) (fun a_21 e_21 => ?_)
    · have hl : lv_has ls 5 [(4, .null), (3, .ref a_16), (0, .ref (ad 0)), (1, .int p1), (2, .int p2)] := by rw [e_21] at hl; exact hl
      refine lv_iconst (v := 0) hx hb d_S_isValidForIdHolder_57 (by decide) ?_
      exact z_iret (wf := fun _ : Unit => (wC ad G st ++ wr)) (u := ()) hx hb hr hlocks h0 hw rfl (by rw [f_isValidForIdHolder, e_16, oel_some, e_21, oel_none]) (Nat.le_of_ble_eq_true rfl) (Nat.le_of_ble_eq_true rfl) d_S_isValidForIdHolder_58
    · have hl : lv_has ls 5 [(4, .ref a_21), (3, .ref a_16), (0, .ref (ad 0)), (1, .int p1), (2, .int p2)] := by rw [e_21] at hl; exact hl
      have hm_a_21 : a_21 ∈ st.2.2.2.1 := cof_mem hI _ e_21
      refine lv_aload_n hx hb d_S_isValidForIdHolder_24 rfl (lv_at hl 1 rfl) ?_
      obtain ⟨k_25, hk_25⟩ := z_pool (ad := ad) (G := G) (wr := wr) (st := st) hm_a_16
      refine va_get (D := G.1) (ci := 0) (v := .int (st.2.2.2.2 a_16 2)) (C := R_C) (T := T_C) (N := 7) hx hb hts in_C hown h0.1 hw.1 k_25 hk_25 rfl 2 (by decide) (hg (.fieldLink R_S 205 "SecureEntry$Certificate" "holder" "I") (by decide +kernel)) (fun _ h9 => h9) rfl d_S_isValidForIdHolder_25 ?_
      refine lv_aload hx hb d_S_isValidForIdHolder_28 (lv_at hl 0 rfl) ?_
      obtain ⟨k_30, hk_30⟩ := z_pool (ad := ad) (G := G) (wr := wr) (st := st) hm_a_21
      refine va_get (D := G.1) (ci := 0) (v := .int (st.2.2.2.2 a_21 2)) (C := R_C) (T := T_C) (N := 7) hx hb hts in_C hown h0.1 hw.1 k_30 hk_30 rfl 2 (by decide) (hg (.fieldLink R_S 205 "SecureEntry$Certificate" "holder" "I") (by decide +kernel)) (fun _ h9 => h9) rfl d_S_isValidForIdHolder_30 ?_
      refine lv_icmp_ne (tgt := 57) hx hb d_S_isValidForIdHolder_33 (by decide) (fun c_33 => ?_) (fun c_33 => ?_)
      · refine lv_iconst (v := 0) hx hb d_S_isValidForIdHolder_57 (by decide) ?_
        exact z_iret (wf := fun _ : Unit => (wC ad G st ++ wr)) (u := ()) hx hb hr hlocks h0 hw rfl (by rw [f_isValidForIdHolder, e_16, oel_some, e_21, oel_some, if_neg c_33]) (Nat.le_of_ble_eq_true rfl) (Nat.le_of_ble_eq_true rfl) d_S_isValidForIdHolder_58
      · refine lv_aload_n hx hb d_S_isValidForIdHolder_36 rfl (lv_at hl 2 rfl) ?_
        refine lv_aload_n hx hb d_S_isValidForIdHolder_37 rfl (lv_at hl 1 rfl) ?_
        refine z_Vi0 (As := [.ref a_16]) (v := (f_isValid st (some a_16))) ⟨hx, hb, hml, hown, hts⟩ (c_S_isValid l G ad st wr _ (some a_16) (by first | assumption | exact hI.2.2.2.1 | exact hI.2.2.2.2 | (unfold vp_in; decide) | exact Or.inr (by assumption) | exact cof_mem hI | (intro a h; cases h; assumption) | exact (hI.2.1 _ (by assumption)).1) (by first | assumption | exact hI.2.2.2.1 | exact hI.2.2.2.2 | (unfold vp_in; decide) | exact Or.inr (by assumption) | exact cof_mem hI | (intro a h; cases h; assumption) | exact (hI.2.1 _ (by assumption)).1)) (cwV 1 hts gV_S_217 rfl rfl rfl (by decide +kernel) ⟨Nat.le_of_ble_eq_true rfl, Nat.le_of_ble_eq_true rfl⟩) h0 hw 0 rfl rfl rfl rfl hl.1 rfl (Nat.le_of_ble_eq_true rfl) d_S_isValidForIdHolder_38 ⟨Nat.le_of_ble_eq_true rfl, Nat.le_of_ble_eq_true rfl⟩ (fun H locs hw => ?_)
        refine lv_if_eq (tgt := 57) hx hb d_S_isValidForIdHolder_41 (by decide) (fun c_41 => ?_) (fun c_41 => ?_)
        · refine lv_iconst (v := 0) hx hb d_S_isValidForIdHolder_57 (by decide) ?_
          exact z_iret (wf := fun _ : Unit => (wC ad G st ++ wr)) (u := ()) hx hb hr hlocks h0 hw rfl (by rw [f_isValidForIdHolder, e_16, oel_some, e_21, oel_some, if_pos c_33, if_pos c_41]) (Nat.le_of_ble_eq_true rfl) (Nat.le_of_ble_eq_true rfl) d_S_isValidForIdHolder_58
        · refine lv_aload_n hx hb d_S_isValidForIdHolder_44 rfl (lv_at hl 2 rfl) ?_
          refine lv_aload hx hb d_S_isValidForIdHolder_45 (lv_at hl 0 rfl) ?_
          refine z_Vi0 (As := [.ref a_21]) (v := (f_isValid st (some a_21))) ⟨hx, hb, hml, hown, hts⟩ (c_S_isValid l G ad st wr _ (some a_21) (by first | assumption | exact hI.2.2.2.1 | exact hI.2.2.2.2 | (unfold vp_in; decide) | exact Or.inr (by assumption) | exact cof_mem hI | (intro a h; cases h; assumption) | exact (hI.2.1 _ (by assumption)).1) (by first | assumption | exact hI.2.2.2.1 | exact hI.2.2.2.2 | (unfold vp_in; decide) | exact Or.inr (by assumption) | exact cof_mem hI | (intro a h; cases h; assumption) | exact (hI.2.1 _ (by assumption)).1)) (cwV 1 hts gV_S_217 rfl rfl rfl (by decide +kernel) ⟨Nat.le_of_ble_eq_true rfl, Nat.le_of_ble_eq_true rfl⟩) h0 hw 0 rfl rfl rfl rfl hl.1 rfl (Nat.le_of_ble_eq_true rfl) d_S_isValidForIdHolder_47 ⟨Nat.le_of_ble_eq_true rfl, Nat.le_of_ble_eq_true rfl⟩ (fun H locs hw => ?_)
          refine lv_if_eq (tgt := 57) hx hb d_S_isValidForIdHolder_50 (by decide) (fun c_50 => ?_) (fun c_50 => ?_)
          · refine lv_iconst (v := 0) hx hb d_S_isValidForIdHolder_57 (by decide) ?_
            exact z_iret (wf := fun _ : Unit => (wC ad G st ++ wr)) (u := ()) hx hb hr hlocks h0 hw rfl (by rw [f_isValidForIdHolder, e_16, oel_some, e_21, oel_some, if_pos c_33, if_neg c_41, if_pos c_50]) (Nat.le_of_ble_eq_true rfl) (Nat.le_of_ble_eq_true rfl) d_S_isValidForIdHolder_58
          · refine lv_iconst (v := 1) hx hb d_S_isValidForIdHolder_53 (by decide) ?_
            refine lv_goto (tgt := 58) hx hb d_S_isValidForIdHolder_54 (by decide) ?_
            exact z_iret (wf := fun _ : Unit => (wC ad G st ++ wr)) (u := ()) hx hb hr hlocks h0 hw rfl (by rw [f_isValidForIdHolder, e_16, oel_some, e_21, oel_some, if_pos c_33, if_neg c_41, if_neg c_50]) (Nat.le_of_ble_eq_true rfl) (Nat.le_of_ble_eq_true rfl) d_S_isValidForIdHolder_58
set_option maxHeartbeats 4000000 in
set_option maxRecDepth 100000 in
theorem c_S_isGood (l : Launch) (G : gG) (ad : Nat → Nat) (st : CS) (wr : va_W) (sz : Nat) (p1 : Int32) (hI : InvC st) (hp1 : tokOK p1) : Met l y_S_isGood w_S_isGood { frames := 3, cells := 0, slots := 0, locals := 72 } (va_Pc [.ref (ad 0), .int p1] (z_pre G (wC ad G st ++ wr) sz)) (z_Qi0 G (wC ad G st ++ wr) sz (wC ad G st ++ wr) (f_isGood st p1)) 0 0 (va_A (wC ad G st ++ wr) sz) := by
  refine Met.ofW (cc := b_S_isGood) (maxL := 2) (ret := (some .boolean)) (by decide) rfl ?_
  intro p e s m args below meth c s₁ B hml hv
  obtain ⟨rfl, hsz, hP, hK, hD0, ham⟩ := hv
  subst hsz
  have hx := B.exec
  have hb := B.bytes
  have hr := B.returns
  have hts : ∀ w ∈ goT, w.before _ s = true := fun w h => atoms_spec (ws := w_S_isGood) B.pre w (List.mem_cons_of_mem _ h)
  have hg : ∀ w, goB w = true → w.before _ s = true := fun w h => hts w (goI h)
  have hown : s.vm.findClass R_S = some m.cls := findClass_of_methodNamed B.named
  have hlocks := B.notSynchronized
  have h0 : z_st G (wC ad G st ++ wr) s := ⟨hK, ham⟩
  have hw : z_wl G (wC ad G st ++ wr) s (wC ad G st ++ wr) s.heap [] := z_0 hP hD0
  have hl := lv_entry ([.ref (ad 0), .int p1]) (n := 2) (Nat.le_of_ble_eq_true rfl)
  rw [lg_entry_eq]
  generalize (lg_sl ([.ref (ad 0), .int p1]) ++ List.replicate (2 - (lg_sl ([.ref (ad 0), .int p1])).length) Slot.unset).toArray = ls at hl ⊢
  have hl : lv_has ls 2 [(0, .ref (ad 0)), (1, .int p1)] := hl
  refine lv_aload_n hx hb d_S_isGood_0 rfl (lv_at hl 0 rfl) ?_
  refine lv_iload_n hx hb d_S_isGood_1 rfl (lv_at hl 1 rfl) ?_
  refine lv_iconst (v := 1) hx hb d_S_isGood_2 (by decide) ?_
  refine z_Vi0 (As := [.int p1, .int 1]) (v := (f_isValidForIdHolder st p1 1)) ⟨hx, hb, hml, hown, hts⟩ (c_S_isValidForIdHolder l G ad st wr _ p1 1 (by first | assumption | exact hI.2.2.2.1 | exact hI.2.2.2.2 | (unfold vp_in; decide) | exact Or.inr (by assumption) | exact cof_mem hI | (intro a h; cases h; assumption) | exact (hI.2.1 _ (by assumption)).1) (by first | assumption | exact hI.2.2.2.1 | exact hI.2.2.2.2 | (unfold vp_in; decide) | exact Or.inr (by assumption) | exact cof_mem hI | (intro a h; cases h; assumption) | exact (hI.2.1 _ (by assumption)).1) (by first | assumption | exact hI.2.2.2.1 | exact hI.2.2.2.2 | (unfold vp_in; decide) | exact Or.inr (by assumption) | exact cof_mem hI | (intro a h; cases h; assumption) | exact (hI.2.1 _ (by assumption)).1)) (cwV 2 hts gV_S_243 rfl rfl rfl (by decide +kernel) ⟨Nat.le_of_ble_eq_true rfl, Nat.le_of_ble_eq_true rfl⟩) h0 hw 0 rfl rfl rfl rfl hl.1 rfl (Nat.le_of_ble_eq_true rfl) d_S_isGood_3 ⟨Nat.le_of_ble_eq_true rfl, Nat.le_of_ble_eq_true rfl⟩ (fun H locs hw => ?_)
  refine lv_if_eq (tgt := 22) hx hb d_S_isGood_6 (by decide) (fun c_6 => ?_) (fun c_6 => ?_)
  · refine lv_iconst (v := 0) hx hb d_S_isGood_22 (by decide) ?_
    exact z_iret (wf := fun _ : Unit => (wC ad G st ++ wr)) (u := ()) hx hb hr hlocks h0 hw rfl (by rw [f_isGood, if_pos c_6]) (Nat.le_of_ble_eq_true rfl) (Nat.le_of_ble_eq_true rfl) d_S_isGood_23
  · refine lv_aload_n hx hb d_S_isGood_9 rfl (lv_at hl 0 rfl) ?_
    refine lv_iload_n hx hb d_S_isGood_10 rfl (lv_at hl 1 rfl) ?_
    refine lv_iconst (v := 2) hx hb d_S_isGood_11 (by decide) ?_
    refine z_Vi0 (As := [.int p1, .int 2]) (v := (f_isValidForIdHolder st p1 2)) ⟨hx, hb, hml, hown, hts⟩ (c_S_isValidForIdHolder l G ad st wr _ p1 2 (by first | assumption | exact hI.2.2.2.1 | exact hI.2.2.2.2 | (unfold vp_in; decide) | exact Or.inr (by assumption) | exact cof_mem hI | (intro a h; cases h; assumption) | exact (hI.2.1 _ (by assumption)).1) (by first | assumption | exact hI.2.2.2.1 | exact hI.2.2.2.2 | (unfold vp_in; decide) | exact Or.inr (by assumption) | exact cof_mem hI | (intro a h; cases h; assumption) | exact (hI.2.1 _ (by assumption)).1) (by first | assumption | exact hI.2.2.2.1 | exact hI.2.2.2.2 | (unfold vp_in; decide) | exact Or.inr (by assumption) | exact cof_mem hI | (intro a h; cases h; assumption) | exact (hI.2.1 _ (by assumption)).1)) (cwV 2 hts gV_S_243 rfl rfl rfl (by decide +kernel) ⟨Nat.le_of_ble_eq_true rfl, Nat.le_of_ble_eq_true rfl⟩) h0 hw 0 rfl rfl rfl rfl hl.1 rfl (Nat.le_of_ble_eq_true rfl) d_S_isGood_12 ⟨Nat.le_of_ble_eq_true rfl, Nat.le_of_ble_eq_true rfl⟩ (fun H locs hw => ?_)
    refine lv_if_eq (tgt := 22) hx hb d_S_isGood_15 (by decide) (fun c_15 => ?_) (fun c_15 => ?_)
    · refine lv_iconst (v := 0) hx hb d_S_isGood_22 (by decide) ?_
      exact z_iret (wf := fun _ : Unit => (wC ad G st ++ wr)) (u := ()) hx hb hr hlocks h0 hw rfl (by rw [f_isGood, if_neg c_6, if_pos c_15]) (Nat.le_of_ble_eq_true rfl) (Nat.le_of_ble_eq_true rfl) d_S_isGood_23
    · refine lv_iconst (v := 1) hx hb d_S_isGood_18 (by decide) ?_
      refine lv_goto (tgt := 23) hx hb d_S_isGood_19 (by decide) ?_
      exact z_iret (wf := fun _ : Unit => (wC ad G st ++ wr)) (u := ()) hx hb hr hlocks h0 hw rfl (by rw [f_isGood, if_neg c_6, if_neg c_15]) (Nat.le_of_ble_eq_true rfl) (Nat.le_of_ble_eq_true rfl) d_S_isGood_23
set_option maxHeartbeats 4000000 in
set_option maxRecDepth 100000 in
theorem c_S_isAuthorised (l : Launch) (G : gG) (ad : Nat → Nat) (st : CS) (wr : va_W) (sz : Nat) (p1 : Int32) (hI : InvC st) (hp1 : tokOK p1) : Met l y_S_isAuthorised w_S_isAuthorised { frames := 3, cells := 0, slots := 0, locals := 72 } (va_Pc [.ref (ad 0), .int p1] (z_pre G (wC ad G st ++ wr) sz)) (z_Qi0 G (wC ad G st ++ wr) sz (wC ad G st ++ wr) (f_isAuthorised st p1)) 0 0 (va_A (wC ad G st ++ wr) sz) := by
  refine Met.ofW (cc := b_S_isAuthorised) (maxL := 2) (ret := (some .boolean)) (by decide) rfl ?_
  intro p e s m args below meth c s₁ B hml hv
  obtain ⟨rfl, hsz, hP, hK, hD0, ham⟩ := hv
  subst hsz
  have hx := B.exec
  have hb := B.bytes
  have hr := B.returns
  have hts : ∀ w ∈ goT, w.before _ s = true := fun w h => atoms_spec (ws := w_S_isAuthorised) B.pre w (List.mem_cons_of_mem _ h)
  have hg : ∀ w, goB w = true → w.before _ s = true := fun w h => hts w (goI h)
  have hown : s.vm.findClass R_S = some m.cls := findClass_of_methodNamed B.named
  have hlocks := B.notSynchronized
  have h0 : z_st G (wC ad G st ++ wr) s := ⟨hK, ham⟩
  have hw : z_wl G (wC ad G st ++ wr) s (wC ad G st ++ wr) s.heap [] := z_0 hP hD0
  have hl := lv_entry ([.ref (ad 0), .int p1]) (n := 2) (Nat.le_of_ble_eq_true rfl)
  rw [lg_entry_eq]
  generalize (lg_sl ([.ref (ad 0), .int p1]) ++ List.replicate (2 - (lg_sl ([.ref (ad 0), .int p1])).length) Slot.unset).toArray = ls at hl ⊢
  have hl : lv_has ls 2 [(0, .ref (ad 0)), (1, .int p1)] := hl
  refine lv_aload_n hx hb d_S_isAuthorised_0 rfl (lv_at hl 0 rfl) ?_
  refine lv_iload_n hx hb d_S_isAuthorised_1 rfl (lv_at hl 1 rfl) ?_
  refine lv_iconst (v := 3) hx hb d_S_isAuthorised_2 (by decide) ?_
  refine z_Vi0 (As := [.int p1, .int 3]) (v := (f_isValidForIdHolder st p1 3)) ⟨hx, hb, hml, hown, hts⟩ (c_S_isValidForIdHolder l G ad st wr _ p1 3 (by first | assumption | exact hI.2.2.2.1 | exact hI.2.2.2.2 | (unfold vp_in; decide) | exact Or.inr (by assumption) | exact cof_mem hI | (intro a h; cases h; assumption) | exact (hI.2.1 _ (by assumption)).1) (by first | assumption | exact hI.2.2.2.1 | exact hI.2.2.2.2 | (unfold vp_in; decide) | exact Or.inr (by assumption) | exact cof_mem hI | (intro a h; cases h; assumption) | exact (hI.2.1 _ (by assumption)).1) (by first | assumption | exact hI.2.2.2.1 | exact hI.2.2.2.2 | (unfold vp_in; decide) | exact Or.inr (by assumption) | exact cof_mem hI | (intro a h; cases h; assumption) | exact (hI.2.1 _ (by assumption)).1)) (cwV 2 hts gV_S_243 rfl rfl rfl (by decide +kernel) ⟨Nat.le_of_ble_eq_true rfl, Nat.le_of_ble_eq_true rfl⟩) h0 hw 0 rfl rfl rfl rfl hl.1 rfl (Nat.le_of_ble_eq_true rfl) d_S_isAuthorised_3 ⟨Nat.le_of_ble_eq_true rfl, Nat.le_of_ble_eq_true rfl⟩ (fun H locs hw => ?_)
  exact z_iret (wf := fun _ : Unit => (wC ad G st ++ wr)) (u := ()) hx hb hr hlocks h0 hw (z_nb vfh_01) (by rw [f_isAuthorised]) (Nat.le_of_ble_eq_true rfl) (Nat.le_of_ble_eq_true rfl) d_S_isAuthorised_6
set_option maxHeartbeats 4000000 in
set_option maxRecDepth 100000 in
theorem c_S_authorisedRole (l : Launch) (G : gG) (ad : Nat → Nat) (st : CS) (wr : va_W) (sz : Nat) (p1 : Int32) (hI : InvC st) (hp1 : tokOK p1) : Met l y_S_authorisedRole w_S_authorisedRole { frames := 1, cells := 0, slots := 0, locals := 22 } (va_Pc [.ref (ad 0), .int p1] (z_pre G (wC ad G st ++ wr) sz)) (z_Qi0 G (wC ad G st ++ wr) sz (wC ad G st ++ wr) (f_authorisedRole st p1)) 0 0 (va_A (wC ad G st ++ wr) sz) := by
  refine Met.ofW (cc := b_S_authorisedRole) (maxL := 3) (ret := (some .int)) (by decide) rfl ?_
  intro p e s m args below meth c s₁ B hml hv
  obtain ⟨rfl, hsz, hP, hK, hD0, ham⟩ := hv
  subst hsz
  have hx := B.exec
  have hb := B.bytes
  have hr := B.returns
  have hts : ∀ w ∈ goT, w.before _ s = true := fun w h => atoms_spec (ws := w_S_authorisedRole) B.pre w (List.mem_cons_of_mem _ h)
  have hg : ∀ w, goB w = true → w.before _ s = true := fun w h => hts w (goI h)
  have hown : s.vm.findClass R_S = some m.cls := findClass_of_methodNamed B.named
  have hlocks := B.notSynchronized
  have h0 : z_st G (wC ad G st ++ wr) s := ⟨hK, ham⟩
  have hw : z_wl G (wC ad G st ++ wr) s (wC ad G st ++ wr) s.heap [] := z_0 hP hD0
  have hl := lv_entry ([.ref (ad 0), .int p1]) (n := 3) (Nat.le_of_ble_eq_true rfl)
  rw [lg_entry_eq]
  generalize (lg_sl ([.ref (ad 0), .int p1]) ++ List.replicate (3 - (lg_sl ([.ref (ad 0), .int p1])).length) Slot.unset).toArray = ls at hl ⊢
  have hl : lv_has ls 3 [(0, .ref (ad 0)), (1, .int p1)] := hl
  refine lv_aload_n hx hb d_S_authorisedRole_0 rfl (lv_at hl 0 rfl) ?_
  refine lv_iload_n hx hb d_S_authorisedRole_1 rfl (lv_at hl 1 rfl) ?_
  refine lv_iconst (v := 3) hx hb d_S_authorisedRole_2 (by decide) ?_
  refine z_Vq0 (As := [.int p1, .int 3]) (v := (f_certificateOf st p1 3)) ⟨hx, hb, hml, hown, hts⟩ (c_S_certificateOf l G ad st wr _ p1 3 (by first | assumption | exact hI.2.2.2.1 | exact hI.2.2.2.2 | (unfold vp_in; decide) | exact Or.inr (by assumption) | exact cof_mem hI | (intro a h; cases h; assumption) | exact (hI.2.1 _ (by assumption)).1) (by first | assumption | exact hI.2.2.2.1 | exact hI.2.2.2.2 | (unfold vp_in; decide) | exact Or.inr (by assumption) | exact cof_mem hI | (intro a h; cases h; assumption) | exact (hI.2.1 _ (by assumption)).1)) (cwV 2 hts gV_S_76 rfl rfl rfl (by decide +kernel) ⟨Nat.le_of_ble_eq_true rfl, Nat.le_of_ble_eq_true rfl⟩) h0 hw 0 rfl rfl rfl rfl hl.1 rfl (Nat.le_of_ble_eq_true rfl) d_S_authorisedRole_3 ⟨Nat.le_of_ble_eq_true rfl, Nat.le_of_ble_eq_true rfl⟩ (fun H locs hw => ?_)
  refine z_astore_n (r := (f_certificateOf st p1 3)) (lv' := [(2, va_rf (f_certificateOf st p1 3)), (0, .ref (ad 0)), (1, .int p1)]) hx hb d_S_authorisedRole_6 rfl hl (by decide) rfl (fun ls hl => ?_)
  refine z_aload_n (r := (f_certificateOf st p1 3)) hx hb d_S_authorisedRole_7 rfl (lv_at hl 0 rfl) ?_
  refine z_ifnonnull (r := (f_certificateOf st p1 3)) (tgt := 15) hx hb d_S_authorisedRole_8 (by decide) (fun e_8 => ?_) (fun a_8 e_8 => ?_)
  · have hl : lv_has ls 3 [(2, .null), (0, .ref (ad 0)), (1, .int p1)] := by rw [e_8] at hl; exact hl
    refine lv_iconst (v := 0) hx hb d_S_authorisedRole_11 (by decide) ?_
    refine lv_goto (tgt := 19) hx hb d_S_authorisedRole_12 (by decide) ?_
    exact z_iret (wf := fun _ : Unit => (wC ad G st ++ wr)) (u := ()) hx hb hr hlocks h0 hw rfl (by rw [f_authorisedRole, e_8, oel_none]) (Nat.le_of_ble_eq_true rfl) (Nat.le_of_ble_eq_true rfl) d_S_authorisedRole_19
  · have hl : lv_has ls 3 [(2, .ref a_8), (0, .ref (ad 0)), (1, .int p1)] := by rw [e_8] at hl; exact hl
    have hm_a_8 : a_8 ∈ st.2.2.2.1 := cof_mem hI _ e_8
    refine lv_aload_n hx hb d_S_authorisedRole_15 rfl (lv_at hl 0 rfl) ?_
    obtain ⟨k_16, hk_16⟩ := z_pool (ad := ad) (G := G) (wr := wr) (st := st) hm_a_8
    refine z_Vi0 (As := []) (v := (f_role (st.2.2.2.2 a_8))) ⟨hx, hb, hml, hown, hts⟩ (c_C_role l G (wC ad G st ++ wr) _ a_8 k_16 (st.2.2.2.2 a_8) hk_16) (cwV 0 hts gV_S_246 rfl rfl rfl (by decide +kernel) ⟨Nat.le_of_ble_eq_true rfl, Nat.le_of_ble_eq_true rfl⟩) h0 hw k_16 hk_16 rfl rfl rfl hl.1 rfl (Nat.le_of_ble_eq_true rfl) d_S_authorisedRole_16 ⟨Nat.le_of_ble_eq_true rfl, Nat.le_of_ble_eq_true rfl⟩ (fun H locs hw => ?_)
    exact z_iret (wf := fun _ : Unit => (wC ad G st ++ wr)) (u := ()) hx hb hr hlocks h0 hw rfl (by rw [f_authorisedRole, e_8, oel_some]) (Nat.le_of_ble_eq_true rfl) (Nat.le_of_ble_eq_true rfl) d_S_authorisedRole_19
end CON
