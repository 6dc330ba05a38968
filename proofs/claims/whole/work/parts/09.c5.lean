section CON
set_option maxHeartbeats 4000000 in
set_option maxRecDepth 100000 in
theorem c_S_signature (l : Launch) (hl9 : l.stackTraces = false) (G : gG) (ad : Nat → Nat) (st : CS) (wr : va_W) (sz : Nat) (p1 : Int32) (p2 : Int32) (p3 : Int32) (p4 : Int32) (p5 : Int32) (p6 : Int32)  : vx_Met l y_S_signature w_S_signature { frames := 6, cells := 1, slots := 6, locals := 81 } (va_Pc [.ref (ad 0), .int p1, .int p2, .int p3, .int p4, .int p5, .int p6] (z_pre G (wC ad G st ++ wr) sz)) (z_Qi G (wC ad G st ++ wr) sz (fun u : CS => (wC ad G u ++ wr)) (fun r u => f_signature st p1 p2 p3 p4 p5 p6 = .inr (r, u))) (z_X G (wC ad G st ++ wr) sz (fun E => f_signature st p1 p2 p3 p4 p5 p6 = .inl E)) 1 6 (va_A (wC ad G st ++ wr) sz) := by
  refine vx_ofW (cc := b_S_signature) (maxL := 7) (ret := (some .int)) (by decide) rfl ?_
  intro p e s m args below meth c s₁ B hml hex hv
  obtain ⟨rfl, hsz, hP, hK, hD0, ham⟩ := hv
  subst hsz
  have hx := B.exec
  have hb := B.bytes
  have hr := B.returns
  have hts : ∀ w ∈ goT, w.before _ s = true := fun w h => atoms_spec (ws := w_S_signature) B.pre w (List.mem_cons_of_mem _ h)
  have hg : ∀ w, goB w = true → w.before _ s = true := fun w h => hts w (goI h)
  have hown : s.vm.findClass R_S = some m.cls := findClass_of_methodNamed B.named
  have hlocks := B.notSynchronized
  have h0 : z_st G (wC ad G st ++ wr) s := ⟨hK, ham⟩
  have hw : z_wl G (wC ad G st ++ wr) s (wC ad G st ++ wr) s.heap [] := z_0 hP hD0
  have hl := lv_entry ([.ref (ad 0), .int p1, .int p2, .int p3, .int p4, .int p5, .int p6]) (n := 7) (Nat.le_of_ble_eq_true rfl)
  rw [lg_entry_eq]
  generalize (lg_sl ([.ref (ad 0), .int p1, .int p2, .int p3, .int p4, .int p5, .int p6]) ++ List.replicate (7 - (lg_sl ([.ref (ad 0), .int p1, .int p2, .int p3, .int p4, .int p5, .int p6])).length) Slot.unset).toArray = ls at hl ⊢
  have hl : lv_has ls 7 [(0, .ref (ad 0)), (1, .int p1), (2, .int p2), (3, .int p3), (4, .int p4), (5, .int p5), (6, .int p6)] := hl
  refine lv_iload_n hx hb d_S_signature_0 rfl (lv_at hl 1 rfl) ?_
  refine lv_iload_n hx hb d_S_signature_1 rfl (lv_at hl 2 rfl) ?_
  refine lv_iload_n hx hb d_S_signature_2 rfl (lv_at hl 3 rfl) ?_
  refine lv_iload hx hb d_S_signature_3 (lv_at hl 4 rfl) ?_
  refine lv_iload hx hb d_S_signature_5 (lv_at hl 5 rfl) ?_
  refine lv_iload hx hb d_S_signature_7 (lv_at hl 6 rfl) ?_
  refine z_Si0 (As := [.int p1, .int p2, .int p3, .int p4, .int p5, .int p6]) (v := (f_areCertificateNumbers p1 p2 p3 p4 p5 p6)) ⟨hx, hb, hml, hown, hts⟩ (c_S_areCertificateNumbers l G (wC ad G st ++ wr) _ p1 p2 p3 p4 p5 p6) (cwS 6 hts gS_S_50 rfl rfl rfl (by decide +kernel) ⟨Nat.le_of_ble_eq_true rfl, Nat.le_of_ble_eq_true rfl⟩) h0 hw rfl hl.1 rfl (Nat.le_of_ble_eq_true rfl) d_S_signature_9 ⟨Nat.le_of_ble_eq_true rfl, Nat.le_of_ble_eq_true rfl⟩ (fun H locs hw => ?_)
  refine lv_if_ne (tgt := 23) hx hb d_S_signature_12 (by decide) (fun c_12 => ?_) (fun c_12 => ?_)
  · have hp2 : vp_in p2 7 := acn_iss c_12
    refine lv_aload_n hx hb d_S_signature_23 rfl (lv_at hl 0 rfl) ?_
    refine lv_iload_n hx hb d_S_signature_24 rfl (lv_at hl 2 rfl) ?_
    refine z_Vi0 (As := [.int p2]) (v := (f_isEnrolled st p2)) ⟨hx, hb, hml, hown, hts⟩ (c_S_isEnrolled l G ad st wr _ p2 (by first | assumption | exact hI.2.2.2.1 | exact hI.2.2.2.2 | (unfold vp_in; decide) | exact Or.inr (by assumption) | exact cof_mem hI | (intro a h; cases h; assumption) | exact (hI.2.1 _ (by assumption)).1)) (cwV 1 hts gV_S_57 rfl rfl rfl (by decide +kernel) ⟨Nat.le_of_ble_eq_true rfl, Nat.le_of_ble_eq_true rfl⟩) h0 hw 0 rfl rfl rfl rfl hl.1 rfl (Nat.le_of_ble_eq_true rfl) d_S_signature_25 ⟨Nat.le_of_ble_eq_true rfl, Nat.le_of_ble_eq_true rfl⟩ (fun H locs hw => ?_)
    refine lv_if_eq (tgt := 47) hx hb d_S_signature_28 (by decide) (fun c_28 => ?_) (fun c_28 => ?_)
    · refine lv_iconst (v := 0) hx hb d_S_signature_47 (by decide) ?_
      exact vx_ret (z_iret (wf := fun u : CS => (wC ad G u ++ wr)) (u := st) hx hb hr hlocks h0 hw rfl (by rw [f_signature, if_neg c_12, if_pos c_28]) (Nat.le_of_ble_eq_true rfl) (Nat.le_of_ble_eq_true rfl) d_S_signature_48)
    · refine lv_aload_n hx hb d_S_signature_31 rfl (lv_at hl 0 rfl) ?_
      refine lv_iload_n hx hb d_S_signature_32 rfl (lv_at hl 1 rfl) ?_
      refine lv_iload_n hx hb d_S_signature_33 rfl (lv_at hl 2 rfl) ?_
      refine lv_iload_n hx hb d_S_signature_34 rfl (lv_at hl 3 rfl) ?_
      refine lv_iload hx hb d_S_signature_35 (lv_at hl 4 rfl) ?_
      refine lv_iload hx hb d_S_signature_37 (lv_at hl 5 rfl) ?_
      refine lv_iload hx hb d_S_signature_39 (lv_at hl 6 rfl) ?_
      refine z_Vi0 (As := [.int p1, .int p2, .int p3, .int p4, .int p5, .int p6]) (v := (f_rightSignature st p1 p2 p3 p4 p5 p6)) ⟨hx, hb, hml, hown, hts⟩ (c_S_rightSignature l G ad st wr _ p1 p2 p3 p4 p5 p6 (by first | assumption | exact hI.2.2.2.1 | exact hI.2.2.2.2 | (unfold vp_in; decide) | exact Or.inr (by assumption) | exact cof_mem hI | (intro a h; cases h; assumption) | exact (hI.2.1 _ (by assumption)).1)) (cwV 6 hts gV_S_61 rfl rfl rfl (by decide +kernel) ⟨Nat.le_of_ble_eq_true rfl, Nat.le_of_ble_eq_true rfl⟩) h0 hw 0 rfl rfl rfl rfl hl.1 rfl (Nat.le_of_ble_eq_true rfl) d_S_signature_41 ⟨Nat.le_of_ble_eq_true rfl, Nat.le_of_ble_eq_true rfl⟩ (fun H locs hw => ?_)
      refine lv_goto (tgt := 48) hx hb d_S_signature_44 (by decide) ?_
      exact vx_ret (z_iret (wf := fun u : CS => (wC ad G u ++ wr)) (u := st) hx hb hr hlocks h0 hw rfl (by rw [f_signature, if_neg c_12, if_neg c_28]) (Nat.le_of_ble_eq_true rfl) (Nat.le_of_ble_eq_true rfl) d_S_signature_48)
  · exact z_throw0 (cls := "java/lang/IllegalArgumentException") (ic := 56) hx hb hl9 hown (hg (.classLink R_S 54 "java/lang/IllegalArgumentException") (by decide +kernel)) (hg (.initialized "java/lang/IllegalArgumentException") (by decide +kernel)) (hat_S56 hts h0.2.1) (by decide +kernel) h0 hw (hl.1.trans hml.symm) d_S_signature_15 d_S_signature_18 d_S_signature_19 d_S_signature_22 hex (Nat.le_of_ble_eq_true rfl) (Nat.le_of_ble_eq_true rfl) (Nat.le_of_ble_eq_true rfl) (Nat.le_of_ble_eq_true rfl) hlocks (by rw [f_signature, if_pos c_12]) (Nat.le_of_ble_eq_true rfl) (Nat.le_of_ble_eq_true rfl)
set_option maxHeartbeats 4000000 in
set_option maxRecDepth 100000 in
theorem c_S_enrol (l : Launch) (hl9 : l.stackTraces = false) (G : gG) (ad : Nat → Nat) (st : CS) (wr : va_W) (sz : Nat) (p1 : Int32) (p2 : Int32)  : vx_Met l y_S_enrol w_S_enrol { frames := 6, cells := 1, slots := 6, locals := 81 } (va_Pc [.ref (ad 0), .int p1, .int p2] (z_pre G (wC ad G st ++ wr) sz)) (z_Qi G (wC ad G st ++ wr) sz (fun u : CS => (wC ad G u ++ wr)) (fun r u => f_enrol st p1 p2 = .inr (r, u))) (z_X G (wC ad G st ++ wr) sz (fun E => f_enrol st p1 p2 = .inl E)) 1 6 (va_A (wC ad G st ++ wr) sz) := by
  refine vx_ofW (cc := b_S_enrol) (maxL := 4) (ret := (some .int)) (by decide) rfl ?_
  intro p e s m args below meth c s₁ B hml hex hv
  obtain ⟨rfl, hsz, hP, hK, hD0, ham⟩ := hv
  subst hsz
  have hx := B.exec
  have hb := B.bytes
  have hr := B.returns
  have hts : ∀ w ∈ goT, w.before _ s = true := fun w h => atoms_spec (ws := w_S_enrol) B.pre w (List.mem_cons_of_mem _ h)
  have hg : ∀ w, goB w = true → w.before _ s = true := fun w h => hts w (goI h)
  have hown : s.vm.findClass R_S = some m.cls := findClass_of_methodNamed B.named
  have hlocks := B.notSynchronized
  have h0 : z_st G (wC ad G st ++ wr) s := ⟨hK, ham⟩
  have hw : z_wl G (wC ad G st ++ wr) s (wC ad G st ++ wr) s.heap [] := z_0 hP hD0
  have hl := lv_entry ([.ref (ad 0), .int p1, .int p2]) (n := 4) (Nat.le_of_ble_eq_true rfl)
  rw [lg_entry_eq]
  generalize (lg_sl ([.ref (ad 0), .int p1, .int p2]) ++ List.replicate (4 - (lg_sl ([.ref (ad 0), .int p1, .int p2])).length) Slot.unset).toArray = ls at hl ⊢
  have hl : lv_has ls 4 [(0, .ref (ad 0)), (1, .int p1), (2, .int p2)] := hl
  refine lv_iload_n hx hb d_S_enrol_0 rfl (lv_at hl 1 rfl) ?_
  refine lv_iconst (v := 0) hx hb d_S_enrol_1 (by decide) ?_
  refine lv_iconst (v := 5) hx hb d_S_enrol_2 (by decide) ?_
  refine z_Si0 (As := [.int p1, .int 0, .int 5]) (v := (f_isWithin p1 0 5)) ⟨hx, hb, hml, hown, hts⟩ (c_S_isWithin l G (wC ad G st ++ wr) _ p1 0 5) (cwS 3 hts gS_S_69 rfl rfl rfl (by decide +kernel) ⟨Nat.le_of_ble_eq_true rfl, Nat.le_of_ble_eq_true rfl⟩) h0 hw rfl hl.1 rfl (Nat.le_of_ble_eq_true rfl) d_S_enrol_3 ⟨Nat.le_of_ble_eq_true rfl, Nat.le_of_ble_eq_true rfl⟩ (fun H locs hw => ?_)
  refine lv_if_eq (tgt := 20) hx hb d_S_enrol_6 (by decide) (fun c_6 => ?_) (fun c_6 => ?_)
  · exact z_throw0 (cls := "java/lang/IllegalArgumentException") (ic := 56) hx hb hl9 hown (hg (.classLink R_S 54 "java/lang/IllegalArgumentException") (by decide +kernel)) (hg (.initialized "java/lang/IllegalArgumentException") (by decide +kernel)) (hat_S56 hts h0.2.1) (by decide +kernel) h0 hw (hl.1.trans hml.symm) d_S_enrol_20 d_S_enrol_23 d_S_enrol_24 d_S_enrol_27 hex (Nat.le_of_ble_eq_true rfl) (Nat.le_of_ble_eq_true rfl) (Nat.le_of_ble_eq_true rfl) (Nat.le_of_ble_eq_true rfl) hlocks (by rw [f_enrol, if_pos c_6]) (Nat.le_of_ble_eq_true rfl) (Nat.le_of_ble_eq_true rfl)
  · refine lv_iload_n hx hb d_S_enrol_9 rfl (lv_at hl 2 rfl) ?_
    refine lv_iconst (v := 0) hx hb d_S_enrol_10 (by decide) ?_
    refine lv_sipush (v := 9972) hx hb d_S_enrol_11 (by decide) ?_
    refine z_Si0 (As := [.int p2, .int 0, .int 9972]) (v := (f_isWithin p2 0 9972)) ⟨hx, hb, hml, hown, hts⟩ (c_S_isWithin l G (wC ad G st ++ wr) _ p2 0 9972) (cwS 3 hts gS_S_69 rfl rfl rfl (by decide +kernel) ⟨Nat.le_of_ble_eq_true rfl, Nat.le_of_ble_eq_true rfl⟩) h0 hw rfl hl.1 rfl (Nat.le_of_ble_eq_true rfl) d_S_enrol_14 ⟨Nat.le_of_ble_eq_true rfl, Nat.le_of_ble_eq_true rfl⟩ (fun H locs hw => ?_)
    refine lv_if_ne (tgt := 28) hx hb d_S_enrol_17 (by decide) (fun c_17 => ?_) (fun c_17 => ?_)
    · have hp1 : vp_in p1 7 := win_in c_6 (by decide)
      refine lv_aload_n hx hb d_S_enrol_28 rfl (lv_at hl 0 rfl) ?_
      refine va_get (D := G.1) (ci := 2) (v := .int (st.1 5)) (C := R_S) (T := T_S) (N := 14) hx hb hts in_S hown h0.1 hw.1 0 rfl rfl 5 (by decide) (hg (.fieldLink R_S 87 "SecureEntry" "up" "Z") (by decide +kernel)) (fun _ h9 => h9) rfl d_S_enrol_29 ?_
      refine lv_if_eq (tgt := 43) hx hb d_S_enrol_32 (by decide) (fun c_32 => ?_) (fun c_32 => ?_)
      · refine lv_aload_n hx hb d_S_enrol_43 rfl (lv_at hl 0 rfl) ?_
        refine va_get (D := G.1) (ci := 2) (v := .ref (ad 2)) (C := R_S) (T := T_S) (N := 14) hx hb hts in_S hown h0.1 hw.1 0 rfl rfl 1 (by decide) (hg (.fieldLink R_S 21 "SecureEntry" "keys" "[I") (by decide +kernel)) (fun _ h9 => h9) rfl d_S_enrol_44 ?_
        refine lv_iload_n hx hb d_S_enrol_47 rfl (lv_at hl 1 rfl) ?_
        refine va_iald hx hb h0.1 hw.1 2 0 rfl rfl (show vp_in p1 7 by assumption) d_S_enrol_48 ?_
        refine lv_istore_n (lv' := [(3, .int ((st.2.1 1) p1.toNatClampNeg)), (0, .ref (ad 0)), (1, .int p1), (2, .int p2)]) hx hb d_S_enrol_49 rfl hl (by decide) rfl (fun ls hl => ?_)
        refine lv_aload_n hx hb d_S_enrol_50 rfl (lv_at hl 1 rfl) ?_
        refine va_get (D := G.1) (ci := 2) (v := .ref (ad 2)) (C := R_S) (T := T_S) (N := 14) hx hb hts in_S hown h0.1 hw.1 0 rfl rfl 1 (by decide) (hg (.fieldLink R_S 21 "SecureEntry" "keys" "[I") (by decide +kernel)) (fun _ h9 => h9) rfl d_S_enrol_51 ?_
        refine lv_iload_n hx hb d_S_enrol_54 rfl (lv_at hl 2 rfl) ?_
        refine lv_iload_n hx hb d_S_enrol_55 rfl (lv_at hl 3 rfl) ?_
        refine va_iast hx hb h0.1 hw.1 hw.2.1 hw.2.2 2 0 rfl rfl (show vp_in p1 7 by assumption) d_S_enrol_56 (fun H locs hP hD hS => ?_)
        have hw : z_wl G (wC ad G st ++ wr) s (wC ad G (sA st 1 (upd (st.2.1 1) p1.toNatClampNeg p2)) ++ wr) H locs := ⟨hP, hD, hS⟩
        refine lv_iload_n hx hb d_S_enrol_57 rfl (lv_at hl 0 rfl) ?_
        exact vx_ret (z_iret (wf := fun u : CS => (wC ad G u ++ wr)) (u := (sA st 1 (upd (st.2.1 1) p1.toNatClampNeg p2))) hx hb hr hlocks h0 hw rfl (by rw [f_enrol, if_neg c_6, if_neg c_17, if_pos c_32]) (Nat.le_of_ble_eq_true rfl) (Nat.le_of_ble_eq_true rfl) d_S_enrol_58)
      · exact z_throw0 (cls := "java/lang/IllegalStateException") (ic := 93) hx hb hl9 hown (hg (.classLink R_S 91 "java/lang/IllegalStateException") (by decide +kernel)) (hg (.initialized "java/lang/IllegalStateException") (by decide +kernel)) (hat_S93 hts h0.2.1) (by decide +kernel) h0 hw (hl.1.trans hml.symm) d_S_enrol_35 d_S_enrol_38 d_S_enrol_39 d_S_enrol_42 hex (Nat.le_of_ble_eq_true rfl) (Nat.le_of_ble_eq_true rfl) (Nat.le_of_ble_eq_true rfl) (Nat.le_of_ble_eq_true rfl) hlocks (by rw [f_enrol, if_neg c_6, if_neg c_17, if_neg c_32]) (Nat.le_of_ble_eq_true rfl) (Nat.le_of_ble_eq_true rfl)
    · exact z_throw0 (cls := "java/lang/IllegalArgumentException") (ic := 56) hx hb hl9 hown (hg (.classLink R_S 54 "java/lang/IllegalArgumentException") (by decide +kernel)) (hg (.initialized "java/lang/IllegalArgumentException") (by decide +kernel)) (hat_S56 hts h0.2.1) (by decide +kernel) h0 hw (hl.1.trans hml.symm) d_S_enrol_20 d_S_enrol_23 d_S_enrol_24 d_S_enrol_27 hex (Nat.le_of_ble_eq_true rfl) (Nat.le_of_ble_eq_true rfl) (Nat.le_of_ble_eq_true rfl) (Nat.le_of_ble_eq_true rfl) hlocks (by rw [f_enrol, if_neg c_6, if_pos c_17]) (Nat.le_of_ble_eq_true rfl) (Nat.le_of_ble_eq_true rfl)
set_option maxHeartbeats 4000000 in
set_option maxRecDepth 100000 in
theorem c_S_remove (l : Launch) (hl9 : l.stackTraces = false) (G : gG) (ad : Nat → Nat) (st : CS) (wr : va_W) (sz : Nat)  (hI : InvC st) : vx_Met l y_S_remove w_S_remove { frames := 7, cells := 2, slots := 12, locals := 106 } (va_Pc [.ref (ad 0)] (z_pre G (wC ad G st ++ wr) sz)) (z_Qi G (wC ad G st ++ wr) sz (fun u : CS => (wC ad G u ++ wr)) (fun r u => f_remove st = .inr (r, u))) (z_X G (wC ad G st ++ wr) sz (fun E => f_remove st = .inl E)) 2 12 (va_A (wC ad G st ++ wr) sz) := by
  refine vx_ofW (cc := b_S_remove) (maxL := 2) (ret := (some .int)) (by decide) rfl ?_
  intro p e s m args below meth c s₁ B hml hex hv
  obtain ⟨rfl, hsz, hP, hK, hD0, ham⟩ := hv
  subst hsz
  have hx := B.exec
  have hb := B.bytes
  have hr := B.returns
  have hts : ∀ w ∈ goT, w.before _ s = true := fun w h => atoms_spec (ws := w_S_remove) B.pre w (List.mem_cons_of_mem _ h)
  have hg : ∀ w, goB w = true → w.before _ s = true := fun w h => hts w (goI h)
  have hown : s.vm.findClass R_S = some m.cls := findClass_of_methodNamed B.named
  have hlocks := B.notSynchronized
  have h0 : z_st G (wC ad G st ++ wr) s := ⟨hK, ham⟩
  have hw : z_wl G (wC ad G st ++ wr) s (wC ad G st ++ wr) s.heap [] := z_0 hP hD0
  have hl := lv_entry ([.ref (ad 0)]) (n := 2) (Nat.le_of_ble_eq_true rfl)
  rw [lg_entry_eq]
  generalize (lg_sl ([.ref (ad 0)]) ++ List.replicate (2 - (lg_sl ([.ref (ad 0)])).length) Slot.unset).toArray = ls at hl ⊢
  have hl : lv_has ls 2 [(0, .ref (ad 0))] := hl
  refine lv_aload_n hx hb d_S_remove_0 rfl (lv_at hl 0 rfl) ?_
  refine z_VXn (As := []) (P := fun E => (f_requireUp st) = some E) (N := (f_requireUp st) = none) ⟨hx, hb, hml, hown, hts⟩ (c_S_requireUp l hl9 G ad st wr _) (cwV 0 hts gV_S_108 rfl rfl rfl (by decide +kernel) ⟨Nat.le_of_ble_eq_true rfl, Nat.le_of_ble_eq_true rfl⟩) h0 hw 0 rfl rfl rfl rfl hl.1 rfl (Nat.le_of_ble_eq_true rfl) d_S_remove_1 ⟨Nat.le_of_ble_eq_true rfl, Nat.le_of_ble_eq_true rfl⟩ (fun E ce q9 H locs hE hw hce hcv hcl => z_out hex hlocks h0 hw hce hcv hcl (by rw [f_remove, hE, exo_some]) (Nat.le_of_ble_eq_true rfl) (Nat.le_of_ble_eq_true rfl)) (fun H locs hn_1 hw => ?_)
  refine lv_aload_n hx hb d_S_remove_4 rfl (lv_at hl 0 rfl) ?_
  refine va_get (D := G.1) (ci := 2) (v := .int (st.1 8)) (C := R_S) (T := T_S) (N := 14) hx hb hts in_S hown h0.1 hw.1 0 rfl rfl 8 (by decide) (hg (.fieldLink R_S 41 "SecureEntry" "outerToken" "I") (by decide +kernel)) (fun _ h9 => h9) rfl d_S_remove_5 ?_
  refine z_SXn (As := [.int (st.1 8)]) (P := fun E => (f_requireFilled (st.1 8)) = some E) (N := (f_requireFilled (st.1 8)) = none) ⟨hx, hb, hml, hown, hts⟩ (c_S_requireFilled l hl9 G (wC ad G st ++ wr) _ (st.1 8)) (cwS 1 hts gS_S_142 rfl rfl rfl (by decide +kernel) ⟨Nat.le_of_ble_eq_true rfl, Nat.le_of_ble_eq_true rfl⟩) h0 hw rfl hl.1 rfl (Nat.le_of_ble_eq_true rfl) d_S_remove_8 ⟨Nat.le_of_ble_eq_true rfl, Nat.le_of_ble_eq_true rfl⟩ (fun E ce q9 H locs hE hw hce hcv hcl => z_out hex hlocks h0 hw hce hcv hcl (by rw [f_remove, hn_1, exo_none, hE, exo_some]) (Nat.le_of_ble_eq_true rfl) (Nat.le_of_ble_eq_true rfl)) (fun H locs hn_8 hw => ?_)
  refine lv_aload_n hx hb d_S_remove_11 rfl (lv_at hl 0 rfl) ?_
  refine va_get (D := G.1) (ci := 2) (v := .int (st.1 8)) (C := R_S) (T := T_S) (N := 14) hx hb hts in_S hown h0.1 hw.1 0 rfl rfl 8 (by decide) (hg (.fieldLink R_S 41 "SecureEntry" "outerToken" "I") (by decide +kernel)) (fun _ h9 => h9) rfl d_S_remove_12 ?_
  refine lv_istore_n (lv' := [(1, .int (st.1 8)), (0, .ref (ad 0))]) hx hb d_S_remove_15 rfl hl (by decide) rfl (fun ls hl => ?_)
  refine lv_aload_n hx hb d_S_remove_16 rfl (lv_at hl 1 rfl) ?_
  refine va_get (D := G.1) (ci := 2) (v := .int (st.1 6)) (C := R_S) (T := T_S) (N := 14) hx hb hts in_S hown h0.1 hw.1 0 rfl rfl 6 (by decide) (hg (.fieldLink R_S 37 "SecureEntry" "userState" "I") (by decide +kernel)) (fun _ h9 => h9) rfl d_S_remove_17 ?_
  refine lv_iconst (v := 2) hx hb d_S_remove_20 (by decide) ?_
  refine lv_icmp_ne (tgt := 31) hx hb d_S_remove_21 (by decide) (fun c_21 => ?_) (fun c_21 => ?_)
  · refine lv_aload_n hx hb d_S_remove_31 rfl (lv_at hl 1 rfl) ?_
    refine va_get (D := G.1) (ci := 2) (v := .int (st.1 6)) (C := R_S) (T := T_S) (N := 14) hx hb hts in_S hown h0.1 hw.1 0 rfl rfl 6 (by decide) (hg (.fieldLink R_S 37 "SecureEntry" "userState" "I") (by decide +kernel)) (fun _ h9 => h9) rfl d_S_remove_32 ?_
    refine lv_iconst (v := 1) hx hb d_S_remove_35 (by decide) ?_
    refine lv_icmp_ne (tgt := 46) hx hb d_S_remove_36 (by decide) (fun c_36 => ?_) (fun c_36 => ?_)
    · refine lv_aload_n hx hb d_S_remove_46 rfl (lv_at hl 1 rfl) ?_
      refine lv_iconst (v := (-1)) hx hb d_S_remove_47 (by decide) ?_
      refine va_put (D := G.1) (ci := 2) (v := .int (-1)) (ty := .int) (C := R_S) (T := T_S) (N := 14) hx hb hts in_S ty_S ty_S_ok n_S hown h0.1 hw.1 hw.2.1 hw.2.2 0 rfl rfl 8 (by decide) (hg (.fieldLink R_S 41 "SecureEntry" "outerToken" "I") (by decide +kernel)) (fun _ h9 => h9) rfl (by decide +kernel) rfl rfl (Nat.le_of_ble_eq_true rfl) d_S_remove_48 (fun H locs hP hD hS => ?_)
      have hI : InvC (sS st 8 (-1)) := inv_tok8 hI (by exact Or.inl rfl)
      have hw : z_wl G (wC ad G st ++ wr) s (wC ad G (sS st 8 (-1)) ++ wr) H locs := ⟨hP, hD, hS⟩
      refine lv_aload_n hx hb d_S_remove_51 rfl (lv_at hl 1 rfl) ?_
      refine lv_iconst (v := 0) hx hb d_S_remove_52 (by decide) ?_
      refine z_Vv0 (As := [.int 0]) (ws1 := (wC ad G (f_becomeUserState (sS st 8 (-1)) 0) ++ wr)) ⟨hx, hb, hml, hown, hts⟩ (c_S_becomeUserState l G ad (sS st 8 (-1)) wr _ 0) (cwV 1 hts gV_S_98 rfl rfl rfl (by decide +kernel) ⟨Nat.le_of_ble_eq_true rfl, Nat.le_of_ble_eq_true rfl⟩) h0 hw 0 rfl rfl rfl rfl hl.1 rfl (Nat.le_of_ble_eq_true rfl) d_S_remove_53 ⟨Nat.le_of_ble_eq_true rfl, Nat.le_of_ble_eq_true rfl⟩ (fun H locs hw => ?_)
      have hI : InvC (f_becomeUserState (sS st 8 (-1)) 0) := inv_f_becomeUserState hI
      refine lv_iload_n hx hb d_S_remove_56 rfl (lv_at hl 0 rfl) ?_
      exact vx_ret (z_iret (wf := fun u : CS => (wC ad G u ++ wr)) (u := (f_becomeUserState (sS st 8 (-1)) 0)) hx hb hr hlocks h0 hw rfl (by rw [f_remove, hn_1, exo_none, hn_8, exo_none, if_neg c_21, if_neg c_36]) (Nat.le_of_ble_eq_true rfl) (Nat.le_of_ble_eq_true rfl) d_S_remove_57)
    · refine lv_aload_n hx hb d_S_remove_39 rfl (lv_at hl 1 rfl) ?_
      refine lv_iload_n hx hb d_S_remove_40 rfl (lv_at hl 0 rfl) ?_
      refine lv_bipush (v := 8) hx hb d_S_remove_41 (by decide) ?_
      refine z_Vv0 (As := [.int (st.1 8), .int 8]) (ws1 := (wC ad G (f_writeAbout st (st.1 8) 8) ++ wr)) ⟨hx, hb, hml, hown, hts⟩ (c_S_writeAbout l G ad st wr _ (st.1 8) 8 (by first | assumption | exact hI.2.2.2.1 | exact hI.2.2.2.2 | (unfold vp_in; decide) | exact Or.inr (by assumption) | exact cof_mem hI | (intro a h; cases h; assumption) | exact (hI.2.1 _ (by assumption)).1) (by first | assumption | exact hI.2.2.2.1 | exact hI.2.2.2.2 | (unfold vp_in; decide) | exact Or.inr (by assumption) | exact cof_mem hI | (intro a h; cases h; assumption) | exact (hI.2.1 _ (by assumption)).1)) (cwV 2 hts gV_S_114 rfl rfl rfl (by decide +kernel) ⟨Nat.le_of_ble_eq_true rfl, Nat.le_of_ble_eq_true rfl⟩) h0 hw 0 rfl rfl rfl rfl hl.1 rfl (Nat.le_of_ble_eq_true rfl) d_S_remove_43 ⟨Nat.le_of_ble_eq_true rfl, Nat.le_of_ble_eq_true rfl⟩ (fun H locs hw => ?_)
      have hI : InvC (f_writeAbout st (st.1 8) 8) := inv_f_writeAbout hI
      refine lv_aload_n hx hb d_S_remove_46 rfl (lv_at hl 1 rfl) ?_
      refine lv_iconst (v := (-1)) hx hb d_S_remove_47 (by decide) ?_
      refine va_put (D := G.1) (ci := 2) (v := .int (-1)) (ty := .int) (C := R_S) (T := T_S) (N := 14) hx hb hts in_S ty_S ty_S_ok n_S hown h0.1 hw.1 hw.2.1 hw.2.2 0 rfl rfl 8 (by decide) (hg (.fieldLink R_S 41 "SecureEntry" "outerToken" "I") (by decide +kernel)) (fun _ h9 => h9) rfl (by decide +kernel) rfl rfl (Nat.le_of_ble_eq_true rfl) d_S_remove_48 (fun H locs hP hD hS => ?_)
      have hI : InvC (sS (f_writeAbout st (st.1 8) 8) 8 (-1)) := inv_tok8 hI (by exact Or.inl rfl)
      have hw : z_wl G (wC ad G st ++ wr) s (wC ad G (sS (f_writeAbout st (st.1 8) 8) 8 (-1)) ++ wr) H locs := ⟨hP, hD, hS⟩
      refine lv_aload_n hx hb d_S_remove_51 rfl (lv_at hl 1 rfl) ?_
      refine lv_iconst (v := 0) hx hb d_S_remove_52 (by decide) ?_
      refine z_Vv0 (As := [.int 0]) (ws1 := (wC ad G (f_becomeUserState (sS (f_writeAbout st (st.1 8) 8) 8 (-1)) 0) ++ wr)) ⟨hx, hb, hml, hown, hts⟩ (c_S_becomeUserState l G ad (sS (f_writeAbout st (st.1 8) 8) 8 (-1)) wr _ 0) (cwV 1 hts gV_S_98 rfl rfl rfl (by decide +kernel) ⟨Nat.le_of_ble_eq_true rfl, Nat.le_of_ble_eq_true rfl⟩) h0 hw 0 rfl rfl rfl rfl hl.1 rfl (Nat.le_of_ble_eq_true rfl) d_S_remove_53 ⟨Nat.le_of_ble_eq_true rfl, Nat.le_of_ble_eq_true rfl⟩ (fun H locs hw => ?_)
      have hI : InvC (f_becomeUserState (sS (f_writeAbout st (st.1 8) 8) 8 (-1)) 0) := inv_f_becomeUserState hI
      refine lv_iload_n hx hb d_S_remove_56 rfl (lv_at hl 0 rfl) ?_
      exact vx_ret (z_iret (wf := fun u : CS => (wC ad G u ++ wr)) (u := (f_becomeUserState (sS (f_writeAbout st (st.1 8) 8) 8 (-1)) 0)) hx hb hr hlocks h0 hw rfl (by rw [f_remove, hn_1, exo_none, hn_8, exo_none, if_neg c_21, if_pos c_36]) (Nat.le_of_ble_eq_true rfl) (Nat.le_of_ble_eq_true rfl) d_S_remove_57)
  · refine lv_aload_n hx hb d_S_remove_24 rfl (lv_at hl 1 rfl) ?_
    refine z_Vv0 (As := []) (ws1 := (wC ad G (f_unlock st) ++ wr)) ⟨hx, hb, hml, hown, hts⟩ (c_S_unlock l G ad st wr _) (cwV 0 hts gV_S_145 rfl rfl rfl (by decide +kernel) ⟨Nat.le_of_ble_eq_true rfl, Nat.le_of_ble_eq_true rfl⟩) h0 hw 0 rfl rfl rfl rfl hl.1 rfl (Nat.le_of_ble_eq_true rfl) d_S_remove_25 ⟨Nat.le_of_ble_eq_true rfl, Nat.le_of_ble_eq_true rfl⟩ (fun H locs hw => ?_)
    have hI : InvC (f_unlock st) := inv_f_unlock hI
    refine lv_goto (tgt := 46) hx hb d_S_remove_28 (by decide) ?_
    refine lv_aload_n hx hb d_S_remove_46 rfl (lv_at hl 1 rfl) ?_
    refine lv_iconst (v := (-1)) hx hb d_S_remove_47 (by decide) ?_
    refine va_put (D := G.1) (ci := 2) (v := .int (-1)) (ty := .int) (C := R_S) (T := T_S) (N := 14) hx hb hts in_S ty_S ty_S_ok n_S hown h0.1 hw.1 hw.2.1 hw.2.2 0 rfl rfl 8 (by decide) (hg (.fieldLink R_S 41 "SecureEntry" "outerToken" "I") (by decide +kernel)) (fun _ h9 => h9) rfl (by decide +kernel) rfl rfl (Nat.le_of_ble_eq_true rfl) d_S_remove_48 (fun H locs hP hD hS => ?_)
    have hI : InvC (sS (f_unlock st) 8 (-1)) := inv_tok8 hI (by exact Or.inl rfl)
    have hw : z_wl G (wC ad G st ++ wr) s (wC ad G (sS (f_unlock st) 8 (-1)) ++ wr) H locs := ⟨hP, hD, hS⟩
    refine lv_aload_n hx hb d_S_remove_51 rfl (lv_at hl 1 rfl) ?_
    refine lv_iconst (v := 0) hx hb d_S_remove_52 (by decide) ?_
    refine z_Vv0 (As := [.int 0]) (ws1 := (wC ad G (f_becomeUserState (sS (f_unlock st) 8 (-1)) 0) ++ wr)) ⟨hx, hb, hml, hown, hts⟩ (c_S_becomeUserState l G ad (sS (f_unlock st) 8 (-1)) wr _ 0) (cwV 1 hts gV_S_98 rfl rfl rfl (by decide +kernel) ⟨Nat.le_of_ble_eq_true rfl, Nat.le_of_ble_eq_true rfl⟩) h0 hw 0 rfl rfl rfl rfl hl.1 rfl (Nat.le_of_ble_eq_true rfl) d_S_remove_53 ⟨Nat.le_of_ble_eq_true rfl, Nat.le_of_ble_eq_true rfl⟩ (fun H locs hw => ?_)
    have hI : InvC (f_becomeUserState (sS (f_unlock st) 8 (-1)) 0) := inv_f_becomeUserState hI
    refine lv_iload_n hx hb d_S_remove_56 rfl (lv_at hl 0 rfl) ?_
    exact vx_ret (z_iret (wf := fun u : CS => (wC ad G u ++ wr)) (u := (f_becomeUserState (sS (f_unlock st) 8 (-1)) 0)) hx hb hr hlocks h0 hw rfl (by rw [f_remove, hn_1, exo_none, hn_8, exo_none, if_pos c_21]) (Nat.le_of_ble_eq_true rfl) (Nat.le_of_ble_eq_true rfl) d_S_remove_57)
set_option maxHeartbeats 4000000 in
set_option maxRecDepth 100000 in
theorem c_S_insert (l : Launch) (hl9 : l.stackTraces = false) (G : gG) (ad : Nat → Nat) (st : CS) (wr : va_W) (sz : Nat) (p1 : Int32) (hI : InvC st) : vx_Met l y_S_insert w_S_insert { frames := 7, cells := 4, slots := 24, locals := 127 } (va_Pc [.ref (ad 0), .int p1] (z_pre G (wC ad G st ++ wr) sz)) (z_Qi G (wC ad G st ++ wr) sz (fun u : CS => (wC ad G u ++ wr)) (fun r u => f_insert st p1 = .inr (r, u))) (z_X G (wC ad G st ++ wr) sz (fun E => f_insert st p1 = .inl E)) 4 24 (va_A (wC ad G st ++ wr) sz) := by
  refine vx_ofW (cc := b_S_insert) (maxL := 2) (ret := (some .int)) (by decide) rfl ?_
  intro p e s m args below meth c s₁ B hml hex hv
  obtain ⟨rfl, hsz, hP, hK, hD0, ham⟩ := hv
  subst hsz
  have hx := B.exec
  have hb := B.bytes
  have hr := B.returns
  have hts : ∀ w ∈ goT, w.before _ s = true := fun w h => atoms_spec (ws := w_S_insert) B.pre w (List.mem_cons_of_mem _ h)
  have hg : ∀ w, goB w = true → w.before _ s = true := fun w h => hts w (goI h)
  have hown : s.vm.findClass R_S = some m.cls := findClass_of_methodNamed B.named
  have hlocks := B.notSynchronized
  have h0 : z_st G (wC ad G st ++ wr) s := ⟨hK, ham⟩
  have hw : z_wl G (wC ad G st ++ wr) s (wC ad G st ++ wr) s.heap [] := z_0 hP hD0
  have hl := lv_entry ([.ref (ad 0), .int p1]) (n := 2) (Nat.le_of_ble_eq_true rfl)
  rw [lg_entry_eq]
  generalize (lg_sl ([.ref (ad 0), .int p1]) ++ List.replicate (2 - (lg_sl ([.ref (ad 0), .int p1])).length) Slot.unset).toArray = ls at hl ⊢
  have hl : lv_has ls 2 [(0, .ref (ad 0)), (1, .int p1)] := hl
  refine lv_aload_n hx hb d_S_insert_0 rfl (lv_at hl 0 rfl) ?_
  refine z_VXn (As := []) (P := fun E => (f_requireUp st) = some E) (N := (f_requireUp st) = none) ⟨hx, hb, hml, hown, hts⟩ (c_S_requireUp l hl9 G ad st wr _) (cwV 0 hts gV_S_108 rfl rfl rfl (by decide +kernel) ⟨Nat.le_of_ble_eq_true rfl, Nat.le_of_ble_eq_true rfl⟩) h0 hw 0 rfl rfl rfl rfl hl.1 rfl (Nat.le_of_ble_eq_true rfl) d_S_insert_1 ⟨Nat.le_of_ble_eq_true rfl, Nat.le_of_ble_eq_true rfl⟩ (fun E ce q9 H locs hE hw hce hcv hcl => z_out hex hlocks h0 hw hce hcv hcl (by rw [f_insert, hE, exo_some]) (Nat.le_of_ble_eq_true rfl) (Nat.le_of_ble_eq_true rfl)) (fun H locs hn_1 hw => ?_)
  refine lv_iload_n hx hb d_S_insert_4 rfl (lv_at hl 1 rfl) ?_
  refine z_SXn (As := [.int p1]) (P := fun E => (f_requireToken p1) = some E) (N := (f_requireToken p1) = none) ⟨hx, hb, hml, hown, hts⟩ (c_S_requireToken l hl9 G (wC ad G st ++ wr) _ p1) (cwS 1 hts gS_S_65 rfl rfl rfl (by decide +kernel) ⟨Nat.le_of_ble_eq_true rfl, Nat.le_of_ble_eq_true rfl⟩) h0 hw rfl hl.1 rfl (Nat.le_of_ble_eq_true rfl) d_S_insert_5 ⟨Nat.le_of_ble_eq_true rfl, Nat.le_of_ble_eq_true rfl⟩ (fun E ce q9 H locs hE hw hce hcv hcl => z_out hex hlocks h0 hw hce hcv hcl (by rw [f_insert, hn_1, exo_none, hE, exo_some]) (Nat.le_of_ble_eq_true rfl) (Nat.le_of_ble_eq_true rfl)) (fun H locs hn_5 hw => ?_)
  have hp1 : vp_in p1 6 := rtk_in hn_5
  refine lv_aload_n hx hb d_S_insert_8 rfl (lv_at hl 0 rfl) ?_
  refine lv_iload_n hx hb d_S_insert_9 rfl (lv_at hl 1 rfl) ?_
  refine z_VXn (As := [.int p1]) (P := fun E => (f_requireInNoReader st p1) = some E) (N := (f_requireInNoReader st p1) = none) ⟨hx, hb, hml, hown, hts⟩ (c_S_requireInNoReader l hl9 G ad st wr _ p1) (cwV 1 hts gV_S_73 rfl rfl rfl (by decide +kernel) ⟨Nat.le_of_ble_eq_true rfl, Nat.le_of_ble_eq_true rfl⟩) h0 hw 0 rfl rfl rfl rfl hl.1 rfl (Nat.le_of_ble_eq_true rfl) d_S_insert_10 ⟨Nat.le_of_ble_eq_true rfl, Nat.le_of_ble_eq_true rfl⟩ (fun E ce q9 H locs hE hw hce hcv hcl => z_out hex hlocks h0 hw hce hcv hcl (by rw [f_insert, hn_1, exo_none, hn_5, exo_none, hE, exo_some]) (Nat.le_of_ble_eq_true rfl) (Nat.le_of_ble_eq_true rfl)) (fun H locs hn_10 hw => ?_)
  refine lv_aload_n hx hb d_S_insert_13 rfl (lv_at hl 0 rfl) ?_
  refine va_get (D := G.1) (ci := 2) (v := .int (st.1 8)) (C := R_S) (T := T_S) (N := 14) hx hb hts in_S hown h0.1 hw.1 0 rfl rfl 8 (by decide) (hg (.fieldLink R_S 41 "SecureEntry" "outerToken" "I") (by decide +kernel)) (fun _ h9 => h9) rfl d_S_insert_14 ?_
  refine z_SXn (As := [.int (st.1 8)]) (P := fun E => (f_requireEmpty (st.1 8)) = some E) (N := (f_requireEmpty (st.1 8)) = none) ⟨hx, hb, hml, hown, hts⟩ (c_S_requireEmpty l hl9 G (wC ad G st ++ wr) _ (st.1 8)) (cwS 1 hts gS_S_111 rfl rfl rfl (by decide +kernel) ⟨Nat.le_of_ble_eq_true rfl, Nat.le_of_ble_eq_true rfl⟩) h0 hw rfl hl.1 rfl (Nat.le_of_ble_eq_true rfl) d_S_insert_17 ⟨Nat.le_of_ble_eq_true rfl, Nat.le_of_ble_eq_true rfl⟩ (fun E ce q9 H locs hE hw hce hcv hcl => z_out hex hlocks h0 hw hce hcv hcl (by rw [f_insert, hn_1, exo_none, hn_5, exo_none, hn_10, exo_none, hE, exo_some]) (Nat.le_of_ble_eq_true rfl) (Nat.le_of_ble_eq_true rfl)) (fun H locs hn_17 hw => ?_)
  refine lv_aload_n hx hb d_S_insert_20 rfl (lv_at hl 0 rfl) ?_
  refine lv_iload_n hx hb d_S_insert_21 rfl (lv_at hl 1 rfl) ?_
  refine va_put (D := G.1) (ci := 2) (v := .int p1) (ty := .int) (C := R_S) (T := T_S) (N := 14) hx hb hts in_S ty_S ty_S_ok n_S hown h0.1 hw.1 hw.2.1 hw.2.2 0 rfl rfl 8 (by decide) (hg (.fieldLink R_S 41 "SecureEntry" "outerToken" "I") (by decide +kernel)) (fun _ h9 => h9) rfl (by decide +kernel) rfl rfl (Nat.le_of_ble_eq_true rfl) d_S_insert_22 (fun H locs hP hD hS => ?_)
  have hI : InvC (sS st 8 p1) := inv_tok8 hI (by exact Or.inr (by assumption))
  have hw : z_wl G (wC ad G st ++ wr) s (wC ad G (sS st 8 p1) ++ wr) H locs := ⟨hP, hD, hS⟩
  refine lv_aload_n hx hb d_S_insert_25 rfl (lv_at hl 0 rfl) ?_
  refine lv_iload_n hx hb d_S_insert_26 rfl (lv_at hl 1 rfl) ?_
  refine lv_iconst (v := 2) hx hb d_S_insert_27 (by decide) ?_
  refine z_Vv0 (As := [.int p1, .int 2]) (ws1 := (wC ad G (f_writeAbout (sS st 8 p1) p1 2) ++ wr)) ⟨hx, hb, hml, hown, hts⟩ (c_S_writeAbout l G ad (sS st 8 p1) wr _ p1 2 (by first | assumption | exact hI.2.2.2.1 | exact hI.2.2.2.2 | (unfold vp_in; decide) | exact Or.inr (by assumption) | exact cof_mem hI | (intro a h; cases h; assumption) | exact (hI.2.1 _ (by assumption)).1) (by first | assumption | exact hI.2.2.2.1 | exact hI.2.2.2.2 | (unfold vp_in; decide) | exact Or.inr (by assumption) | exact cof_mem hI | (intro a h; cases h; assumption) | exact (hI.2.1 _ (by assumption)).1)) (cwV 2 hts gV_S_114 rfl rfl rfl (by decide +kernel) ⟨Nat.le_of_ble_eq_true rfl, Nat.le_of_ble_eq_true rfl⟩) h0 hw 0 rfl rfl rfl rfl hl.1 rfl (Nat.le_of_ble_eq_true rfl) d_S_insert_28 ⟨Nat.le_of_ble_eq_true rfl, Nat.le_of_ble_eq_true rfl⟩ (fun H locs hw => ?_)
  have hI : InvC (f_writeAbout (sS st 8 p1) p1 2) := inv_f_writeAbout hI
  refine lv_aload_n hx hb d_S_insert_31 rfl (lv_at hl 0 rfl) ?_
  refine lv_iload_n hx hb d_S_insert_32 rfl (lv_at hl 1 rfl) ?_
  refine z_Vi0 (As := [.int p1]) (v := (f_isAuthorised (f_writeAbout (sS st 8 p1) p1 2) p1)) ⟨hx, hb, hml, hown, hts⟩ (c_S_isAuthorised l G ad (f_writeAbout (sS st 8 p1) p1 2) wr _ p1 (by first | assumption | exact hI.2.2.2.1 | exact hI.2.2.2.2 | (unfold vp_in; decide) | exact Or.inr (by assumption) | exact cof_mem hI | (intro a h; cases h; assumption) | exact (hI.2.1 _ (by assumption)).1) (by first | assumption | exact hI.2.2.2.1 | exact hI.2.2.2.2 | (unfold vp_in; decide) | exact Or.inr (by assumption) | exact cof_mem hI | (intro a h; cases h; assumption) | exact (hI.2.1 _ (by assumption)).1)) (cwV 1 hts gV_S_118 rfl rfl rfl (by decide +kernel) ⟨Nat.le_of_ble_eq_true rfl, Nat.le_of_ble_eq_true rfl⟩) h0 hw 0 rfl rfl rfl rfl hl.1 rfl (Nat.le_of_ble_eq_true rfl) d_S_insert_33 ⟨Nat.le_of_ble_eq_true rfl, Nat.le_of_ble_eq_true rfl⟩ (fun H locs hw => ?_)
  refine lv_if_eq (tgt := 46) hx hb d_S_insert_36 (by decide) (fun c_36 => ?_) (fun c_36 => ?_)
  · refine lv_aload_n hx hb d_S_insert_46 rfl (lv_at hl 0 rfl) ?_
    refine lv_iload_n hx hb d_S_insert_47 rfl (lv_at hl 1 rfl) ?_
    refine z_Vi0 (As := [.int p1]) (v := (f_isGood (f_writeAbout (sS st 8 p1) p1 2) p1)) ⟨hx, hb, hml, hown, hts⟩ (c_S_isGood l G ad (f_writeAbout (sS st 8 p1) p1 2) wr _ p1 (by first | assumption | exact hI.2.2.2.1 | exact hI.2.2.2.2 | (unfold vp_in; decide) | exact Or.inr (by assumption) | exact cof_mem hI | (intro a h; cases h; assumption) | exact (hI.2.1 _ (by assumption)).1) (by first | assumption | exact hI.2.2.2.1 | exact hI.2.2.2.2 | (unfold vp_in; decide) | exact Or.inr (by assumption) | exact cof_mem hI | (intro a h; cases h; assumption) | exact (hI.2.1 _ (by assumption)).1)) (cwV 1 hts gV_S_124 rfl rfl rfl (by decide +kernel) ⟨Nat.le_of_ble_eq_true rfl, Nat.le_of_ble_eq_true rfl⟩) h0 hw 0 rfl rfl rfl rfl hl.1 rfl (Nat.le_of_ble_eq_true rfl) d_S_insert_48 ⟨Nat.le_of_ble_eq_true rfl, Nat.le_of_ble_eq_true rfl⟩ (fun H locs hw => ?_)
    refine lv_if_eq (tgt := 62) hx hb d_S_insert_51 (by decide) (fun c_51 => ?_) (fun c_51 => ?_)
    · refine lv_aload_n hx hb d_S_insert_62 rfl (lv_at hl 0 rfl) ?_
      refine lv_iconst (v := 3) hx hb d_S_insert_63 (by decide) ?_
      refine z_Vv0 (As := [.int 3]) (ws1 := (wC ad G (f_turnAway (f_writeAbout (sS st 8 p1) p1 2) 3) ++ wr)) ⟨hx, hb, hml, hown, hts⟩ (c_S_turnAway l G ad (f_writeAbout (sS st 8 p1) p1 2) wr _ 3 (by first | assumption | exact hI.2.2.2.1 | exact hI.2.2.2.2 | (unfold vp_in; decide) | exact Or.inr (by assumption) | exact cof_mem hI | (intro a h; cases h; assumption) | exact (hI.2.1 _ (by assumption)).1)) (cwV 1 hts gV_S_127 rfl rfl rfl (by decide +kernel) ⟨Nat.le_of_ble_eq_true rfl, Nat.le_of_ble_eq_true rfl⟩) h0 hw 0 rfl rfl rfl rfl hl.1 rfl (Nat.le_of_ble_eq_true rfl) d_S_insert_64 ⟨Nat.le_of_ble_eq_true rfl, Nat.le_of_ble_eq_true rfl⟩ (fun H locs hw => ?_)
      have hI : InvC (f_turnAway (f_writeAbout (sS st 8 p1) p1 2) 3) := inv_f_turnAway hI
      refine lv_aload_n hx hb d_S_insert_67 rfl (lv_at hl 0 rfl) ?_
      refine va_get (D := G.1) (ci := 2) (v := .int ((f_turnAway (f_writeAbout (sS st 8 p1) p1 2) 3).1 6)) (C := R_S) (T := T_S) (N := 14) hx hb hts in_S hown h0.1 hw.1 0 rfl rfl 6 (by decide) (hg (.fieldLink R_S 37 "SecureEntry" "userState" "I") (by decide +kernel)) (fun _ h9 => h9) rfl d_S_insert_68 ?_
      exact vx_ret (z_iret (wf := fun u : CS => (wC ad G u ++ wr)) (u := (f_turnAway (f_writeAbout (sS st 8 p1) p1 2) 3)) hx hb hr hlocks h0 hw rfl (by rw [f_insert, hn_1, exo_none, hn_5, exo_none, hn_10, exo_none, hn_17, exo_none, if_pos c_36, if_pos c_51]) (Nat.le_of_ble_eq_true rfl) (Nat.le_of_ble_eq_true rfl) d_S_insert_71)
    · refine lv_aload_n hx hb d_S_insert_54 rfl (lv_at hl 0 rfl) ?_
      refine lv_iconst (v := 1) hx hb d_S_insert_55 (by decide) ?_
      refine z_Vv0 (As := [.int 1]) (ws1 := (wC ad G (f_becomeUserState (f_writeAbout (sS st 8 p1) p1 2) 1) ++ wr)) ⟨hx, hb, hml, hown, hts⟩ (c_S_becomeUserState l G ad (f_writeAbout (sS st 8 p1) p1 2) wr _ 1) (cwV 1 hts gV_S_98 rfl rfl rfl (by decide +kernel) ⟨Nat.le_of_ble_eq_true rfl, Nat.le_of_ble_eq_true rfl⟩) h0 hw 0 rfl rfl rfl rfl hl.1 rfl (Nat.le_of_ble_eq_true rfl) d_S_insert_56 ⟨Nat.le_of_ble_eq_true rfl, Nat.le_of_ble_eq_true rfl⟩ (fun H locs hw => ?_)
      have hI : InvC (f_becomeUserState (f_writeAbout (sS st 8 p1) p1 2) 1) := inv_f_becomeUserState hI
      refine lv_goto (tgt := 67) hx hb d_S_insert_59 (by decide) ?_
      refine lv_aload_n hx hb d_S_insert_67 rfl (lv_at hl 0 rfl) ?_
      refine va_get (D := G.1) (ci := 2) (v := .int ((f_becomeUserState (f_writeAbout (sS st 8 p1) p1 2) 1).1 6)) (C := R_S) (T := T_S) (N := 14) hx hb hts in_S hown h0.1 hw.1 0 rfl rfl 6 (by decide) (hg (.fieldLink R_S 37 "SecureEntry" "userState" "I") (by decide +kernel)) (fun _ h9 => h9) rfl d_S_insert_68 ?_
      exact vx_ret (z_iret (wf := fun u : CS => (wC ad G u ++ wr)) (u := (f_becomeUserState (f_writeAbout (sS st 8 p1) p1 2) 1)) hx hb hr hlocks h0 hw rfl (by rw [f_insert, hn_1, exo_none, hn_5, exo_none, hn_10, exo_none, hn_17, exo_none, if_pos c_36, if_neg c_51]) (Nat.le_of_ble_eq_true rfl) (Nat.le_of_ble_eq_true rfl) d_S_insert_71)
  · refine lv_aload_n hx hb d_S_insert_39 rfl (lv_at hl 0 rfl) ?_
    refine z_Vv0 (As := []) (ws1 := (wC ad G (f_allowEntry (f_writeAbout (sS st 8 p1) p1 2)) ++ wr)) ⟨hx, hb, hml, hown, hts⟩ (c_S_allowEntry l G ad (f_writeAbout (sS st 8 p1) p1 2) wr _  (by first | assumption | exact hI.2.2.2.1 | exact hI.2.2.2.2 | (unfold vp_in; decide) | exact Or.inr (by assumption) | exact cof_mem hI | (intro a h; cases h; assumption) | exact (hI.2.1 _ (by assumption)).1)) (cwV 0 hts gV_S_121 rfl rfl rfl (by decide +kernel) ⟨Nat.le_of_ble_eq_true rfl, Nat.le_of_ble_eq_true rfl⟩) h0 hw 0 rfl rfl rfl rfl hl.1 rfl (Nat.le_of_ble_eq_true rfl) d_S_insert_40 ⟨Nat.le_of_ble_eq_true rfl, Nat.le_of_ble_eq_true rfl⟩ (fun H locs hw => ?_)
    have hI : InvC (f_allowEntry (f_writeAbout (sS st 8 p1) p1 2)) := inv_f_allowEntry hI
    refine lv_goto (tgt := 67) hx hb d_S_insert_43 (by decide) ?_
    refine lv_aload_n hx hb d_S_insert_67 rfl (lv_at hl 0 rfl) ?_
    refine va_get (D := G.1) (ci := 2) (v := .int ((f_allowEntry (f_writeAbout (sS st 8 p1) p1 2)).1 6)) (C := R_S) (T := T_S) (N := 14) hx hb hts in_S hown h0.1 hw.1 0 rfl rfl 6 (by decide) (hg (.fieldLink R_S 37 "SecureEntry" "userState" "I") (by decide +kernel)) (fun _ h9 => h9) rfl d_S_insert_68 ?_
    exact vx_ret (z_iret (wf := fun u : CS => (wC ad G u ++ wr)) (u := (f_allowEntry (f_writeAbout (sS st 8 p1) p1 2))) hx hb hr hlocks h0 hw rfl (by rw [f_insert, hn_1, exo_none, hn_5, exo_none, hn_10, exo_none, hn_17, exo_none, if_neg c_36]) (Nat.le_of_ble_eq_true rfl) (Nat.le_of_ble_eq_true rfl) d_S_insert_71)
end CON
