section CON
set_option maxHeartbeats 4000000 in
set_option maxRecDepth 100000 in
theorem c_S_configure (l : Launch) (hl9 : l.stackTraces = false) (G : gG) (ad : Nat → Nat) (st : CS) (wr : va_W) (sz : Nat) (p1 : Int32) (p2 : Int32) (hI : InvC st) : vx_Met l y_S_configure w_S_configure { frames := 7, cells := 4, slots := 24, locals := 106 } (va_Pc [.ref (ad 0), .int p1, .int p2] (z_pre G (wC ad G st ++ wr) sz)) (z_Qi G (wC ad G st ++ wr) sz (fun u : CS => (wC ad G u ++ wr)) (fun r u => f_configure st p1 p2 = .inr (r, u))) (z_X G (wC ad G st ++ wr) sz (fun E => f_configure st p1 p2 = .inl E)) 4 24 (va_A (wC ad G st ++ wr) sz) := by
  refine vx_ofW (cc := b_S_configure) (maxL := 4) (ret := (some .int)) (by decide) rfl ?_
  intro p e s m args below meth c s₁ B hml hex hv
  obtain ⟨rfl, hsz, hP, hK, hD0, ham⟩ := hv
  subst hsz
  have hx := B.exec
  have hb := B.bytes
  have hr := B.returns
  have hts : ∀ w ∈ goT, w.before _ s = true := fun w h => atoms_spec (ws := w_S_configure) B.pre w (List.mem_cons_of_mem _ h)
  have hg : ∀ w, goB w = true → w.before _ s = true := fun w h => hts w (goI h)
  have hown : s.vm.findClass R_S = some m.cls := findClass_of_methodNamed B.named
  have hlocks := B.notSynchronized
  have h0 : z_st G (wC ad G st ++ wr) s := ⟨hK, ham⟩
  have hw : z_wl G (wC ad G st ++ wr) s (wC ad G st ++ wr) s.heap [] := z_0 hP hD0
  have hl := lv_entry ([.ref (ad 0), .int p1, .int p2]) (n := 4) (Nat.le_of_ble_eq_true rfl)
  rw [lg_entry_eq]
  generalize (lg_sl ([.ref (ad 0), .int p1, .int p2]) ++ List.replicate (4 - (lg_sl ([.ref (ad 0), .int p1, .int p2])).length) Slot.unset).toArray = ls at hl ⊢
  have hl : lv_has ls 4 [(0, .ref (ad 0)), (1, .int p1), (2, .int p2)] := hl
  refine lv_aload_n hx hb d_S_configure_0 rfl (lv_at hl 0 rfl) ?_
  refine z_VXn (As := []) (P := fun E => (f_requireUp st) = some E) (N := (f_requireUp st) = none) ⟨hx, hb, hml, hown, hts⟩ (c_S_requireUp l hl9 G ad st wr _) (cwV 0 hts gV_S_108 rfl rfl rfl (by decide +kernel) ⟨Nat.le_of_ble_eq_true rfl, Nat.le_of_ble_eq_true rfl⟩) h0 hw 0 rfl rfl rfl rfl hl.1 rfl (Nat.le_of_ble_eq_true rfl) d_S_configure_1 ⟨Nat.le_of_ble_eq_true rfl, Nat.le_of_ble_eq_true rfl⟩ (fun E ce q9 H locs hE hw hce hcv hcl => z_out hex hlocks h0 hw hce hcv hcl (by rw [f_configure, hE, exo_some]) (Nat.le_of_ble_eq_true rfl) (Nat.le_of_ble_eq_true rfl)) (fun H locs hn_1 hw => ?_)
  refine lv_aload_n hx hb d_S_configure_4 rfl (lv_at hl 0 rfl) ?_
  refine z_VXn (As := []) (P := fun E => (f_requireAdministrator st) = some E) (N := (f_requireAdministrator st) = none) ⟨hx, hb, hml, hown, hts⟩ (c_S_requireAdministrator l hl9 G ad st wr _) (cwV 0 hts gV_S_155 rfl rfl rfl (by decide +kernel) ⟨Nat.le_of_ble_eq_true rfl, Nat.le_of_ble_eq_true rfl⟩) h0 hw 0 rfl rfl rfl rfl hl.1 rfl (Nat.le_of_ble_eq_true rfl) d_S_configure_5 ⟨Nat.le_of_ble_eq_true rfl, Nat.le_of_ble_eq_true rfl⟩ (fun E ce q9 H locs hE hw hce hcv hcl => z_out hex hlocks h0 hw hce hcv hcl (by rw [f_configure, hn_1, exo_none, hE, exo_some]) (Nat.le_of_ble_eq_true rfl) (Nat.le_of_ble_eq_true rfl)) (fun H locs hn_5 hw => ?_)
  refine lv_aload_n hx hb d_S_configure_8 rfl (lv_at hl 0 rfl) ?_
  refine lv_iconst (v := 3) hx hb d_S_configure_9 (by decide) ?_
  refine z_VXn (As := [.int 3]) (P := fun E => (f_requireRole st 3) = some E) (N := (f_requireRole st 3) = none) ⟨hx, hb, hml, hown, hts⟩ (c_S_requireRole l hl9 G ad st wr _ 3) (cwV 1 hts gV_S_158 rfl rfl rfl (by decide +kernel) ⟨Nat.le_of_ble_eq_true rfl, Nat.le_of_ble_eq_true rfl⟩) h0 hw 0 rfl rfl rfl rfl hl.1 rfl (Nat.le_of_ble_eq_true rfl) d_S_configure_10 ⟨Nat.le_of_ble_eq_true rfl, Nat.le_of_ble_eq_true rfl⟩ (fun E ce q9 H locs hE hw hce hcv hcl => z_out hex hlocks h0 hw hce hcv hcl (by rw [f_configure, hn_1, exo_none, hn_5, exo_none, hE, exo_some]) (Nat.le_of_ble_eq_true rfl) (Nat.le_of_ble_eq_true rfl)) (fun H locs hn_10 hw => ?_)
  refine lv_iload_n hx hb d_S_configure_13 rfl (lv_at hl 1 rfl) ?_
  refine lv_iconst (v := 0) hx hb d_S_configure_14 (by decide) ?_
  refine lv_iconst (v := 5) hx hb d_S_configure_15 (by decide) ?_
  refine z_Si0 (As := [.int p1, .int 0, .int 5]) (v := (f_isWithin p1 0 5)) ⟨hx, hb, hml, hown, hts⟩ (c_S_isWithin l G (wC ad G st ++ wr) _ p1 0 5) (cwS 3 hts gS_S_69 rfl rfl rfl (by decide +kernel) ⟨Nat.le_of_ble_eq_true rfl, Nat.le_of_ble_eq_true rfl⟩) h0 hw rfl hl.1 rfl (Nat.le_of_ble_eq_true rfl) d_S_configure_16 ⟨Nat.le_of_ble_eq_true rfl, Nat.le_of_ble_eq_true rfl⟩ (fun H locs hw => ?_)
  refine lv_if_eq (tgt := 35) hx hb d_S_configure_19 (by decide) (fun c_19 => ?_) (fun c_19 => ?_)
  · exact z_throw0 (cls := "java/lang/IllegalArgumentException") (ic := 56) hx hb hl9 hown (hg (.classLink R_S 54 "java/lang/IllegalArgumentException") (by decide +kernel)) (hg (.initialized "java/lang/IllegalArgumentException") (by decide +kernel)) (hat_S56 hts h0.2.1) (by decide +kernel) h0 hw (hl.1.trans hml.symm) d_S_configure_35 d_S_configure_38 d_S_configure_39 d_S_configure_42 hex (Nat.le_of_ble_eq_true rfl) (Nat.le_of_ble_eq_true rfl) (Nat.le_of_ble_eq_true rfl) (Nat.le_of_ble_eq_true rfl) hlocks (by rw [f_configure, hn_1, exo_none, hn_5, exo_none, hn_10, exo_none, if_pos c_19]) (Nat.le_of_ble_eq_true rfl) (Nat.le_of_ble_eq_true rfl)
  · have hp1 : vp_in p1 6 := win_in c_19 (by decide)
    refine lv_iload_n hx hb d_S_configure_22 rfl (lv_at hl 2 rfl) ?_
    refine lv_iconst (v := 0) hx hb d_S_configure_23 (by decide) ?_
    refine va_gets hx hb h0.2.2.2.2.1 hw.2.2 hown (hg (.fieldLink R_S 170 "SecureEntry" "HIGHEST_CONFIGURATION" "[I") (by decide +kernel)) (fun _ h9 => h9) d_S_configure_24 ?_
    refine lv_iload_n hx hb d_S_configure_27 rfl (lv_at hl 1 rfl) ?_
    refine va_ti (v := .int (hiC p1.toNatClampNeg)) hx hb h0.2.2.2.2.2 hw.2.2 (show vp_in p1 6 by assumption) rfl d_S_configure_28 ?_
    refine z_Si0 (As := [.int p2, .int 0, .int (hiC p1.toNatClampNeg)]) (v := (f_isWithin p2 0 (hiC p1.toNatClampNeg))) ⟨hx, hb, hml, hown, hts⟩ (c_S_isWithin l G (wC ad G st ++ wr) _ p2 0 (hiC p1.toNatClampNeg)) (cwS 3 hts gS_S_69 rfl rfl rfl (by decide +kernel) ⟨Nat.le_of_ble_eq_true rfl, Nat.le_of_ble_eq_true rfl⟩) h0 hw rfl hl.1 rfl (Nat.le_of_ble_eq_true rfl) d_S_configure_29 ⟨Nat.le_of_ble_eq_true rfl, Nat.le_of_ble_eq_true rfl⟩ (fun H locs hw => ?_)
    refine lv_if_ne (tgt := 43) hx hb d_S_configure_32 (by decide) (fun c_32 => ?_) (fun c_32 => ?_)
    · refine lv_aload_n hx hb d_S_configure_43 rfl (lv_at hl 0 rfl) ?_
      refine va_get (D := G.1) (ci := 2) (v := .ref (ad 1)) (C := R_S) (T := T_S) (N := 14) hx hb hts in_S hown h0.1 hw.1 0 rfl rfl 0 (by decide) (hg (.fieldLink R_S 18 "SecureEntry" "configuration" "[I") (by decide +kernel)) (fun _ h9 => h9) rfl d_S_configure_44 ?_
      refine lv_iload_n hx hb d_S_configure_47 rfl (lv_at hl 1 rfl) ?_
      refine va_iald hx hb h0.1 hw.1 1 0 rfl rfl (show vp_in p1 6 by assumption) d_S_configure_48 ?_
      refine lv_istore_n (lv' := [(3, .int ((st.2.1 0) p1.toNatClampNeg)), (0, .ref (ad 0)), (1, .int p1), (2, .int p2)]) hx hb d_S_configure_49 rfl hl (by decide) rfl (fun ls hl => ?_)
      refine lv_aload_n hx hb d_S_configure_50 rfl (lv_at hl 1 rfl) ?_
      refine va_get (D := G.1) (ci := 2) (v := .ref (ad 1)) (C := R_S) (T := T_S) (N := 14) hx hb hts in_S hown h0.1 hw.1 0 rfl rfl 0 (by decide) (hg (.fieldLink R_S 18 "SecureEntry" "configuration" "[I") (by decide +kernel)) (fun _ h9 => h9) rfl d_S_configure_51 ?_
      refine lv_iload_n hx hb d_S_configure_54 rfl (lv_at hl 2 rfl) ?_
      refine lv_iload_n hx hb d_S_configure_55 rfl (lv_at hl 3 rfl) ?_
      refine va_iast hx hb h0.1 hw.1 hw.2.1 hw.2.2 1 0 rfl rfl (show vp_in p1 6 by assumption) d_S_configure_56 (fun H locs hP hD hS => ?_)
      have hI : InvC (sA st 0 (upd (st.2.1 0) p1.toNatClampNeg p2)) := inv_sA hI
      have hw : z_wl G (wC ad G st ++ wr) s (wC ad G (sA st 0 (upd (st.2.1 0) p1.toNatClampNeg p2)) ++ wr) H locs := ⟨hP, hD, hS⟩
      refine lv_aload_n hx hb d_S_configure_57 rfl (lv_at hl 1 rfl) ?_
      refine lv_aload_n hx hb d_S_configure_58 rfl (lv_at hl 1 rfl) ?_
      refine va_get (D := G.1) (ci := 2) (v := .int (st.1 9)) (C := R_S) (T := T_S) (N := 14) hx hb hts in_S hown h0.1 hw.1 0 rfl rfl 9 (by decide) (hg (.fieldLink R_S 44 "SecureEntry" "innerToken" "I") (by decide +kernel)) (fun _ h9 => h9) rfl d_S_configure_59 ?_
      refine lv_bipush (v := 14) hx hb d_S_configure_62 (by decide) ?_
      refine z_Vv0 (As := [.int (st.1 9), .int 14]) (ws1 := (wC ad G (f_writeAbout (sA st 0 (upd (st.2.1 0) p1.toNatClampNeg p2)) (st.1 9) 14) ++ wr)) ⟨hx, hb, hml, hown, hts⟩ (c_S_writeAbout l G ad (sA st 0 (upd (st.2.1 0) p1.toNatClampNeg p2)) wr _ (st.1 9) 14 (by first | assumption | exact hI.2.2.2.1 | exact hI.2.2.2.2 | (unfold vp_in; decide) | exact Or.inr (by assumption) | exact cof_mem hI | (intro a h; cases h; assumption) | exact (hI.2.1 _ (by assumption)).1) (by first | assumption | exact hI.2.2.2.1 | exact hI.2.2.2.2 | (unfold vp_in; decide) | exact Or.inr (by assumption) | exact cof_mem hI | (intro a h; cases h; assumption) | exact (hI.2.1 _ (by assumption)).1)) (cwV 2 hts gV_S_114 rfl rfl rfl (by decide +kernel) ⟨Nat.le_of_ble_eq_true rfl, Nat.le_of_ble_eq_true rfl⟩) h0 hw 0 rfl rfl rfl rfl hl.1 rfl (Nat.le_of_ble_eq_true rfl) d_S_configure_64 ⟨Nat.le_of_ble_eq_true rfl, Nat.le_of_ble_eq_true rfl⟩ (fun H locs hw => ?_)
      have hI : InvC (f_writeAbout (sA st 0 (upd (st.2.1 0) p1.toNatClampNeg p2)) (st.1 9) 14) := inv_f_writeAbout hI
      refine lv_iload_n hx hb d_S_configure_67 rfl (lv_at hl 0 rfl) ?_
      exact vx_ret (z_iret (wf := fun u : CS => (wC ad G u ++ wr)) (u := (f_writeAbout (sA st 0 (upd (st.2.1 0) p1.toNatClampNeg p2)) (st.1 9) 14)) hx hb hr hlocks h0 hw rfl (by rw [f_configure, hn_1, exo_none, hn_5, exo_none, hn_10, exo_none, if_neg c_19, if_neg c_32]) (Nat.le_of_ble_eq_true rfl) (Nat.le_of_ble_eq_true rfl) d_S_configure_68)
    · exact z_throw0 (cls := "java/lang/IllegalArgumentException") (ic := 56) hx hb hl9 hown (hg (.classLink R_S 54 "java/lang/IllegalArgumentException") (by decide +kernel)) (hg (.initialized "java/lang/IllegalArgumentException") (by decide +kernel)) (hat_S56 hts h0.2.1) (by decide +kernel) h0 hw (hl.1.trans hml.symm) d_S_configure_35 d_S_configure_38 d_S_configure_39 d_S_configure_42 hex (Nat.le_of_ble_eq_true rfl) (Nat.le_of_ble_eq_true rfl) (Nat.le_of_ble_eq_true rfl) (Nat.le_of_ble_eq_true rfl) hlocks (by rw [f_configure, hn_1, exo_none, hn_5, exo_none, hn_10, exo_none, if_neg c_19, if_pos c_32]) (Nat.le_of_ble_eq_true rfl) (Nat.le_of_ble_eq_true rfl)
set_option maxHeartbeats 4000000 in
set_option maxRecDepth 100000 in
theorem c_S_shutdown (l : Launch) (hl9 : l.stackTraces = false) (G : gG) (ad : Nat → Nat) (st : CS) (wr : va_W) (sz : Nat)  (hI : InvC st) : vx_Met l y_S_shutdown w_S_shutdown { frames := 7, cells := 3, slots := 18, locals := 106 } (va_Pc [.ref (ad 0)] (z_pre G (wC ad G st ++ wr) sz)) (z_Qi G (wC ad G st ++ wr) sz (fun u : CS => (wC ad G u ++ wr)) (fun r u => f_shutdown st = .inr (r, u))) (z_X G (wC ad G st ++ wr) sz (fun E => f_shutdown st = .inl E)) 3 18 (va_A (wC ad G st ++ wr) sz) := by
  refine vx_ofW (cc := b_S_shutdown) (maxL := 1) (ret := (some .int)) (by decide) rfl ?_
  intro p e s m args below meth c s₁ B hml hex hv
  obtain ⟨rfl, hsz, hP, hK, hD0, ham⟩ := hv
  subst hsz
  have hx := B.exec
  have hb := B.bytes
  have hr := B.returns
  have hts : ∀ w ∈ goT, w.before _ s = true := fun w h => atoms_spec (ws := w_S_shutdown) B.pre w (List.mem_cons_of_mem _ h)
  have hg : ∀ w, goB w = true → w.before _ s = true := fun w h => hts w (goI h)
  have hown : s.vm.findClass R_S = some m.cls := findClass_of_methodNamed B.named
  have hlocks := B.notSynchronized
  have h0 : z_st G (wC ad G st ++ wr) s := ⟨hK, ham⟩
  have hw : z_wl G (wC ad G st ++ wr) s (wC ad G st ++ wr) s.heap [] := z_0 hP hD0
  have hl := lv_entry ([.ref (ad 0)]) (n := 1) (Nat.le_of_ble_eq_true rfl)
  rw [lg_entry_eq]
  generalize (lg_sl ([.ref (ad 0)]) ++ List.replicate (1 - (lg_sl ([.ref (ad 0)])).length) Slot.unset).toArray = ls at hl ⊢
  have hl : lv_has ls 1 [(0, .ref (ad 0))] := hl
  refine lv_aload_n hx hb d_S_shutdown_0 rfl (lv_at hl 0 rfl) ?_
  refine z_VXn (As := []) (P := fun E => (f_requireUp st) = some E) (N := (f_requireUp st) = none) ⟨hx, hb, hml, hown, hts⟩ (c_S_requireUp l hl9 G ad st wr _) (cwV 0 hts gV_S_108 rfl rfl rfl (by decide +kernel) ⟨Nat.le_of_ble_eq_true rfl, Nat.le_of_ble_eq_true rfl⟩) h0 hw 0 rfl rfl rfl rfl hl.1 rfl (Nat.le_of_ble_eq_true rfl) d_S_shutdown_1 ⟨Nat.le_of_ble_eq_true rfl, Nat.le_of_ble_eq_true rfl⟩ (fun E ce q9 H locs hE hw hce hcv hcl => z_out hex hlocks h0 hw hce hcv hcl (by rw [f_shutdown, hE, exo_some]) (Nat.le_of_ble_eq_true rfl) (Nat.le_of_ble_eq_true rfl)) (fun H locs hn_1 hw => ?_)
  refine lv_aload_n hx hb d_S_shutdown_4 rfl (lv_at hl 0 rfl) ?_
  refine z_VXn (As := []) (P := fun E => (f_requireAdministrator st) = some E) (N := (f_requireAdministrator st) = none) ⟨hx, hb, hml, hown, hts⟩ (c_S_requireAdministrator l hl9 G ad st wr _) (cwV 0 hts gV_S_155 rfl rfl rfl (by decide +kernel) ⟨Nat.le_of_ble_eq_true rfl, Nat.le_of_ble_eq_true rfl⟩) h0 hw 0 rfl rfl rfl rfl hl.1 rfl (Nat.le_of_ble_eq_true rfl) d_S_shutdown_5 ⟨Nat.le_of_ble_eq_true rfl, Nat.le_of_ble_eq_true rfl⟩ (fun E ce q9 H locs hE hw hce hcv hcl => z_out hex hlocks h0 hw hce hcv hcl (by rw [f_shutdown, hn_1, exo_none, hE, exo_some]) (Nat.le_of_ble_eq_true rfl) (Nat.le_of_ble_eq_true rfl)) (fun H locs hn_5 hw => ?_)
  refine lv_aload_n hx hb d_S_shutdown_8 rfl (lv_at hl 0 rfl) ?_
  refine va_get (D := G.1) (ci := 2) (v := .int (st.1 13)) (C := R_S) (T := T_S) (N := 14) hx hb hts in_S hown h0.1 hw.1 0 rfl rfl 13 (by decide) (hg (.fieldLink R_S 173 "SecureEntry" "doorOpen" "Z") (by decide +kernel)) (fun _ h9 => h9) rfl d_S_shutdown_9 ?_
  refine lv_if_eq (tgt := 23) hx hb d_S_shutdown_12 (by decide) (fun c_12 => ?_) (fun c_12 => ?_)
  · refine lv_aload_n hx hb d_S_shutdown_23 rfl (lv_at hl 0 rfl) ?_
    refine lv_iconst (v := 3) hx hb d_S_shutdown_24 (by decide) ?_
    refine z_VXn (As := [.int 3]) (P := fun E => (f_requireRole st 3) = some E) (N := (f_requireRole st 3) = none) ⟨hx, hb, hml, hown, hts⟩ (c_S_requireRole l hl9 G ad st wr _ 3) (cwV 1 hts gV_S_158 rfl rfl rfl (by decide +kernel) ⟨Nat.le_of_ble_eq_true rfl, Nat.le_of_ble_eq_true rfl⟩) h0 hw 0 rfl rfl rfl rfl hl.1 rfl (Nat.le_of_ble_eq_true rfl) d_S_shutdown_25 ⟨Nat.le_of_ble_eq_true rfl, Nat.le_of_ble_eq_true rfl⟩ (fun E ce q9 H locs hE hw hce hcv hcl => z_out hex hlocks h0 hw hce hcv hcl (by rw [f_shutdown, hn_1, exo_none, hn_5, exo_none, if_pos c_12, hE, exo_some]) (Nat.le_of_ble_eq_true rfl) (Nat.le_of_ble_eq_true rfl)) (fun H locs hn_25 hw => ?_)
    refine lv_aload_n hx hb d_S_shutdown_28 rfl (lv_at hl 0 rfl) ?_
    refine lv_aload_n hx hb d_S_shutdown_29 rfl (lv_at hl 0 rfl) ?_
    refine va_get (D := G.1) (ci := 2) (v := .int (st.1 9)) (C := R_S) (T := T_S) (N := 14) hx hb hts in_S hown h0.1 hw.1 0 rfl rfl 9 (by decide) (hg (.fieldLink R_S 44 "SecureEntry" "innerToken" "I") (by decide +kernel)) (fun _ h9 => h9) rfl d_S_shutdown_30 ?_
    refine lv_bipush (v := 15) hx hb d_S_shutdown_33 (by decide) ?_
    refine z_Vv0 (As := [.int (st.1 9), .int 15]) (ws1 := (wC ad G (f_writeAbout st (st.1 9) 15) ++ wr)) ⟨hx, hb, hml, hown, hts⟩ (c_S_writeAbout l G ad st wr _ (st.1 9) 15 (by first | assumption | exact hI.2.2.2.1 | exact hI.2.2.2.2 | (unfold vp_in; decide) | exact Or.inr (by assumption) | exact cof_mem hI | (intro a h; cases h; assumption) | exact (hI.2.1 _ (by assumption)).1) (by first | assumption | exact hI.2.2.2.1 | exact hI.2.2.2.2 | (unfold vp_in; decide) | exact Or.inr (by assumption) | exact cof_mem hI | (intro a h; cases h; assumption) | exact (hI.2.1 _ (by assumption)).1)) (cwV 2 hts gV_S_114 rfl rfl rfl (by decide +kernel) ⟨Nat.le_of_ble_eq_true rfl, Nat.le_of_ble_eq_true rfl⟩) h0 hw 0 rfl rfl rfl rfl hl.1 rfl (Nat.le_of_ble_eq_true rfl) d_S_shutdown_35 ⟨Nat.le_of_ble_eq_true rfl, Nat.le_of_ble_eq_true rfl⟩ (fun H locs hw => ?_)
    have hI : InvC (f_writeAbout st (st.1 9) 15) := inv_f_writeAbout hI
    refine lv_aload_n hx hb d_S_shutdown_38 rfl (lv_at hl 0 rfl) ?_
    refine lv_iconst (v := 0) hx hb d_S_shutdown_39 (by decide) ?_
    refine va_put (D := G.1) (ci := 2) (v := .int 0) (ty := .boolean) (C := R_S) (T := T_S) (N := 14) hx hb hts in_S ty_S ty_S_ok n_S hown h0.1 hw.1 hw.2.1 hw.2.2 0 rfl rfl 5 (by decide) (hg (.fieldLink R_S 87 "SecureEntry" "up" "Z") (by decide +kernel)) (fun _ h9 => h9) rfl (by decide +kernel) rfl rfl (Nat.le_of_ble_eq_true rfl) d_S_shutdown_40 (fun H locs hP hD hS => ?_)
    have hI : InvC (sS (f_writeAbout st (st.1 9) 15) 5 0) := inv_sS hI (by decide)
    have hw : z_wl G (wC ad G st ++ wr) s (wC ad G (sS (f_writeAbout st (st.1 9) 15) 5 0) ++ wr) H locs := ⟨hP, hD, hS⟩
    refine lv_aload_n hx hb d_S_shutdown_43 rfl (lv_at hl 0 rfl) ?_
    refine lv_aload_n hx hb d_S_shutdown_44 rfl (lv_at hl 0 rfl) ?_
    refine va_get (D := G.1) (ci := 2) (v := .int ((f_writeAbout st (st.1 9) 15).1 4)) (C := R_S) (T := T_S) (N := 14) hx hb hts in_S hown h0.1 hw.1 0 rfl rfl 4 (by decide) (hg (.fieldLink R_S 101 "SecureEntry" "time" "I") (by decide +kernel)) (fun _ h9 => h9) rfl d_S_shutdown_45 ?_
    refine va_put (D := G.1) (ci := 2) (v := .int ((f_writeAbout st (st.1 9) 15).1 4)) (ty := .int) (C := R_S) (T := T_S) (N := 14) hx hb hts in_S ty_S ty_S_ok n_S hown h0.1 hw.1 hw.2.1 hw.2.2 0 rfl rfl 11 (by decide) (hg (.fieldLink R_S 161 "SecureEntry" "unlockedUntil" "I") (by decide +kernel)) (fun _ h9 => h9) rfl (by decide +kernel) rfl rfl (Nat.le_of_ble_eq_true rfl) d_S_shutdown_48 (fun H locs hP hD hS => ?_)
    have hI : InvC (sS (sS (f_writeAbout st (st.1 9) 15) 5 0) 11 ((f_writeAbout st (st.1 9) 15).1 4)) := inv_sS hI (by decide)
    have hw : z_wl G (wC ad G st ++ wr) s (wC ad G (sS (sS (f_writeAbout st (st.1 9) 15) 5 0) 11 ((f_writeAbout st (st.1 9) 15).1 4)) ++ wr) H locs := ⟨hP, hD, hS⟩
    refine lv_aload_n hx hb d_S_shutdown_51 rfl (lv_at hl 0 rfl) ?_
    refine lv_iconst (v := (-1)) hx hb d_S_shutdown_52 (by decide) ?_
    refine va_put (D := G.1) (ci := 2) (v := .int (-1)) (ty := .int) (C := R_S) (T := T_S) (N := 14) hx hb hts in_S ty_S ty_S_ok n_S hown h0.1 hw.1 hw.2.1 hw.2.2 0 rfl rfl 8 (by decide) (hg (.fieldLink R_S 41 "SecureEntry" "outerToken" "I") (by decide +kernel)) (fun _ h9 => h9) rfl (by decide +kernel) rfl rfl (Nat.le_of_ble_eq_true rfl) d_S_shutdown_53 (fun H locs hP hD hS => ?_)
    have hI : InvC (sS (sS (sS (f_writeAbout st (st.1 9) 15) 5 0) 11 ((f_writeAbout st (st.1 9) 15).1 4)) 8 (-1)) := inv_tok8 hI (by exact Or.inl rfl)
    have hw : z_wl G (wC ad G st ++ wr) s (wC ad G (sS (sS (sS (f_writeAbout st (st.1 9) 15) 5 0) 11 ((f_writeAbout st (st.1 9) 15).1 4)) 8 (-1)) ++ wr) H locs := ⟨hP, hD, hS⟩
    refine lv_aload_n hx hb d_S_shutdown_56 rfl (lv_at hl 0 rfl) ?_
    refine lv_iconst (v := (-1)) hx hb d_S_shutdown_57 (by decide) ?_
    refine va_put (D := G.1) (ci := 2) (v := .int (-1)) (ty := .int) (C := R_S) (T := T_S) (N := 14) hx hb hts in_S ty_S ty_S_ok n_S hown h0.1 hw.1 hw.2.1 hw.2.2 0 rfl rfl 9 (by decide) (hg (.fieldLink R_S 44 "SecureEntry" "innerToken" "I") (by decide +kernel)) (fun _ h9 => h9) rfl (by decide +kernel) rfl rfl (Nat.le_of_ble_eq_true rfl) d_S_shutdown_58 (fun H locs hP hD hS => ?_)
    have hI : InvC (sS (sS (sS (sS (f_writeAbout st (st.1 9) 15) 5 0) 11 ((f_writeAbout st (st.1 9) 15).1 4)) 8 (-1)) 9 (-1)) := inv_tok9 hI (by exact Or.inl rfl)
    have hw : z_wl G (wC ad G st ++ wr) s (wC ad G (sS (sS (sS (sS (f_writeAbout st (st.1 9) 15) 5 0) 11 ((f_writeAbout st (st.1 9) 15).1 4)) 8 (-1)) 9 (-1)) ++ wr) H locs := ⟨hP, hD, hS⟩
    refine lv_aload_n hx hb d_S_shutdown_61 rfl (lv_at hl 0 rfl) ?_
    refine lv_iconst (v := 0) hx hb d_S_shutdown_62 (by decide) ?_
    refine z_Vv0 (As := [.int 0]) (ws1 := (wC ad G (f_becomeUserState (sS (sS (sS (sS (f_writeAbout st (st.1 9) 15) 5 0) 11 ((f_writeAbout st (st.1 9) 15).1 4)) 8 (-1)) 9 (-1)) 0) ++ wr)) ⟨hx, hb, hml, hown, hts⟩ (c_S_becomeUserState l G ad (sS (sS (sS (sS (f_writeAbout st (st.1 9) 15) 5 0) 11 ((f_writeAbout st (st.1 9) 15).1 4)) 8 (-1)) 9 (-1)) wr _ 0) (cwV 1 hts gV_S_98 rfl rfl rfl (by decide +kernel) ⟨Nat.le_of_ble_eq_true rfl, Nat.le_of_ble_eq_true rfl⟩) h0 hw 0 rfl rfl rfl rfl hl.1 rfl (Nat.le_of_ble_eq_true rfl) d_S_shutdown_63 ⟨Nat.le_of_ble_eq_true rfl, Nat.le_of_ble_eq_true rfl⟩ (fun H locs hw => ?_)
    have hI : InvC (f_becomeUserState (sS (sS (sS (sS (f_writeAbout st (st.1 9) 15) 5 0) 11 ((f_writeAbout st (st.1 9) 15).1 4)) 8 (-1)) 9 (-1)) 0) := inv_f_becomeUserState hI
    refine lv_aload_n hx hb d_S_shutdown_66 rfl (lv_at hl 0 rfl) ?_
    refine lv_iconst (v := 0) hx hb d_S_shutdown_67 (by decide) ?_
    refine va_put (D := G.1) (ci := 2) (v := .int 0) (ty := .int) (C := R_S) (T := T_S) (N := 14) hx hb hts in_S ty_S ty_S_ok n_S hown h0.1 hw.1 hw.2.1 hw.2.2 0 rfl rfl 10 (by decide) (hg (.fieldLink R_S 47 "SecureEntry" "administratorRole" "I") (by decide +kernel)) (fun _ h9 => h9) rfl (by decide +kernel) rfl rfl (Nat.le_of_ble_eq_true rfl) d_S_shutdown_68 (fun H locs hP hD hS => ?_)
    have hI : InvC (sS (f_becomeUserState (sS (sS (sS (sS (f_writeAbout st (st.1 9) 15) 5 0) 11 ((f_writeAbout st (st.1 9) 15).1 4)) 8 (-1)) 9 (-1)) 0) 10 0) := inv_sS hI (by decide)
    have hw : z_wl G (wC ad G st ++ wr) s (wC ad G (sS (f_becomeUserState (sS (sS (sS (sS (f_writeAbout st (st.1 9) 15) 5 0) 11 ((f_writeAbout st (st.1 9) 15).1 4)) 8 (-1)) 9 (-1)) 0) 10 0) ++ wr) H locs := ⟨hP, hD, hS⟩
    refine lv_iconst (v := 1) hx hb d_S_shutdown_71 (by decide) ?_
    exact vx_ret (z_iret (wf := fun u : CS => (wC ad G u ++ wr)) (u := (sS (f_becomeUserState (sS (sS (sS (sS (f_writeAbout st (st.1 9) 15) 5 0) 11 ((f_writeAbout st (st.1 9) 15).1 4)) 8 (-1)) 9 (-1)) 0) 10 0)) hx hb hr hlocks h0 hw rfl (by rw [f_shutdown, hn_1, exo_none, hn_5, exo_none, if_pos c_12, hn_25, exo_none]) (Nat.le_of_ble_eq_true rfl) (Nat.le_of_ble_eq_true rfl) d_S_shutdown_72)
  · exact z_throw0 (cls := "java/lang/IllegalStateException") (ic := 93) hx hb hl9 hown (hg (.classLink R_S 91 "java/lang/IllegalStateException") (by decide +kernel)) (hg (.initialized "java/lang/IllegalStateException") (by decide +kernel)) (hat_S93 hts h0.2.1) (by decide +kernel) h0 hw (hl.1.trans hml.symm) d_S_shutdown_15 d_S_shutdown_18 d_S_shutdown_19 d_S_shutdown_22 hex (Nat.le_of_ble_eq_true rfl) (Nat.le_of_ble_eq_true rfl) (Nat.le_of_ble_eq_true rfl) (Nat.le_of_ble_eq_true rfl) hlocks (by rw [f_shutdown, hn_1, exo_none, hn_5, exo_none, if_neg c_12]) (Nat.le_of_ble_eq_true rfl) (Nat.le_of_ble_eq_true rfl)
set_option maxHeartbeats 4000000 in
set_option maxRecDepth 100000 in
theorem c_S_door (l : Launch) (G : gG) (ad : Nat → Nat) (st : CS) (wr : va_W) (sz : Nat) (p1 : Int32) (hI : InvC st) (hz : p1 = 0 ∨ p1 = 1) : Met l y_S_door w_S_door { frames := 3, cells := 0, slots := 0, locals := 83 } (va_Pc [.ref (ad 0), .int p1] (z_pre G (wC ad G st ++ wr) sz)) (z_Qi G (wC ad G st ++ wr) sz (fun u : CS => (wC ad G u ++ wr)) (fun r u => f_door st p1 = .inr (r, u))) 0 0 (va_A (wC ad G st ++ wr) sz) := by
  refine Met.ofW (cc := b_S_door) (maxL := 2) (ret := (some .int)) (by decide) rfl ?_
  intro p e s m args below meth c s₁ B hml hv
  obtain ⟨rfl, hsz, hP, hK, hD0, ham⟩ := hv
  subst hsz
  have hx := B.exec
  have hb := B.bytes
  have hr := B.returns
  have hts : ∀ w ∈ goT, w.before _ s = true := fun w h => atoms_spec (ws := w_S_door) B.pre w (List.mem_cons_of_mem _ h)
  have hg : ∀ w, goB w = true → w.before _ s = true := fun w h => hts w (goI h)
  have hown : s.vm.findClass R_S = some m.cls := findClass_of_methodNamed B.named
  have hlocks := B.notSynchronized
  have h0 : z_st G (wC ad G st ++ wr) s := ⟨hK, ham⟩
  have hw : z_wl G (wC ad G st ++ wr) s (wC ad G st ++ wr) s.heap [] := z_0 hP hD0
  have hl := lv_entry ([.ref (ad 0), .int p1]) (n := 2) (Nat.le_of_ble_eq_true rfl)
  rw [lg_entry_eq]
  generalize (lg_sl ([.ref (ad 0), .int p1]) ++ List.replicate (2 - (lg_sl ([.ref (ad 0), .int p1])).length) Slot.unset).toArray = ls at hl ⊢
  have hl : lv_has ls 2 [(0, .ref (ad 0)), (1, .int p1)] := hl
  refine lv_iload_n hx hb d_S_door_0 rfl (lv_at hl 1 rfl) ?_
  refine lv_aload_n hx hb d_S_door_1 rfl (lv_at hl 0 rfl) ?_
  refine va_get (D := G.1) (ci := 2) (v := .int (st.1 13)) (C := R_S) (T := T_S) (N := 14) hx hb hts in_S hown h0.1 hw.1 0 rfl rfl 13 (by decide) (hg (.fieldLink R_S 173 "SecureEntry" "doorOpen" "Z") (by decide +kernel)) (fun _ h9 => h9) rfl d_S_door_2 ?_
  refine lv_icmp_ne (tgt := 10) hx hb d_S_door_5 (by decide) (fun c_5 => ?_) (fun c_5 => ?_)
  · refine lv_aload_n hx hb d_S_door_10 rfl (lv_at hl 0 rfl) ?_
    refine lv_iload_n hx hb d_S_door_11 rfl (lv_at hl 1 rfl) ?_
    refine va_put (D := G.1) (ci := 2) (v := .int p1) (ty := .boolean) (C := R_S) (T := T_S) (N := 14) hx hb hts in_S ty_S ty_S_ok n_S hown h0.1 hw.1 hw.2.1 hw.2.2 0 rfl rfl 13 (by decide) (hg (.fieldLink R_S 173 "SecureEntry" "doorOpen" "Z") (by decide +kernel)) (fun _ h9 => h9) rfl (by decide +kernel) (z_nb hz) (z_fb hz) (Nat.le_of_ble_eq_true rfl) d_S_door_12 (fun H locs hP hD hS => ?_)
    have hI : InvC (sS st 13 p1) := inv_sS hI (by decide)
    have hw : z_wl G (wC ad G st ++ wr) s (wC ad G (sS st 13 p1) ++ wr) H locs := ⟨hP, hD, hS⟩
    refine lv_iload_n hx hb d_S_door_15 rfl (lv_at hl 1 rfl) ?_
    refine lv_if_eq (tgt := 55) hx hb d_S_door_16 (by decide) (fun c_16 => ?_) (fun c_16 => ?_)
    · refine lv_iconst (v := 1) hx hb d_S_door_55 (by decide) ?_
      exact z_iret (wf := fun u : CS => (wC ad G u ++ wr)) (u := (sS st 13 p1)) hx hb hr hlocks h0 hw rfl (by rw [f_door, if_neg c_5, if_pos c_16]) (Nat.le_of_ble_eq_true rfl) (Nat.le_of_ble_eq_true rfl) d_S_door_56
    · refine lv_aload_n hx hb d_S_door_19 rfl (lv_at hl 0 rfl) ?_
      refine z_Vi0 (As := []) (v := (f_isUnlocked (sS st 13 p1))) ⟨hx, hb, hml, hown, hts⟩ (c_S_isUnlocked l G ad (sS st 13 p1) wr _) (cwV 0 hts gV_S_176 rfl rfl rfl (by decide +kernel) ⟨Nat.le_of_ble_eq_true rfl, Nat.le_of_ble_eq_true rfl⟩) h0 hw 0 rfl rfl rfl rfl hl.1 rfl (Nat.le_of_ble_eq_true rfl) d_S_door_20 ⟨Nat.le_of_ble_eq_true rfl, Nat.le_of_ble_eq_true rfl⟩ (fun H locs hw => ?_)
      refine lv_if_ne (tgt := 55) hx hb d_S_door_23 (by decide) (fun c_23 => ?_) (fun c_23 => ?_)
      · refine lv_iconst (v := 1) hx hb d_S_door_55 (by decide) ?_
        exact z_iret (wf := fun u : CS => (wC ad G u ++ wr)) (u := (sS st 13 p1)) hx hb hr hlocks h0 hw rfl (by rw [f_door, if_neg c_5, if_neg c_16, if_neg c_23]) (Nat.le_of_ble_eq_true rfl) (Nat.le_of_ble_eq_true rfl) d_S_door_56
      · refine lv_aload_n hx hb d_S_door_26 rfl (lv_at hl 0 rfl) ?_
        refine va_get (D := G.1) (ci := 2) (v := .ref (ad 4)) (C := R_S) (T := T_S) (N := 14) hx hb hts in_S hown h0.1 hw.1 0 rfl rfl 3 (by decide) (hg (.fieldLink R_S 33 "SecureEntry" "log" "LSecureEntry$Log;") (by decide +kernel)) (fun _ h9 => h9) rfl d_S_door_27 ?_
        refine lv_bipush (v := 9) hx hb d_S_door_30 (by decide) ?_
        refine lv_aload_n hx hb d_S_door_32 rfl (lv_at hl 0 rfl) ?_
        refine va_get (D := G.1) (ci := 2) (v := .int (st.1 4)) (C := R_S) (T := T_S) (N := 14) hx hb hts in_S hown h0.1 hw.1 0 rfl rfl 4 (by decide) (hg (.fieldLink R_S 101 "SecureEntry" "time" "I") (by decide +kernel)) (fun _ h9 => h9) rfl d_S_door_33 ?_
        refine lv_iconst (v := (-1)) hx hb d_S_door_36 (by decide) ?_
        refine z_Vv0 (As := [.int 9, .int (st.1 4), .int (-1)]) (ws1 := (wC ad G (f_write (sS st 13 p1) 9 (st.1 4) (-1)) ++ wr)) ⟨hx, hb, hml, hown, hts⟩ (c_O_write l G ad (sS st 13 p1) wr _ 9 (st.1 4) (-1) (by first | assumption | exact hI.2.2.2.1 | exact hI.2.2.2.2 | (unfold vp_in; decide) | exact Or.inr (by assumption) | exact cof_mem hI | (intro a h; cases h; assumption) | exact (hI.2.1 _ (by assumption)).1)) (cwV 3 hts gV_S_104 rfl rfl rfl (by decide +kernel) ⟨Nat.le_of_ble_eq_true rfl, Nat.le_of_ble_eq_true rfl⟩) h0 hw 4 rfl rfl rfl rfl hl.1 rfl (Nat.le_of_ble_eq_true rfl) d_S_door_37 ⟨Nat.le_of_ble_eq_true rfl, Nat.le_of_ble_eq_true rfl⟩ (fun H locs hw => ?_)
        have hI : InvC (f_write (sS st 13 p1) 9 (st.1 4) (-1)) := inv_f_write hI
        refine lv_aload_n hx hb d_S_door_40 rfl (lv_at hl 0 rfl) ?_
        refine lv_aload_n hx hb d_S_door_41 rfl (lv_at hl 0 rfl) ?_
        refine va_get (D := G.1) (ci := 2) (v := .int ((f_write (sS st 13 p1) 9 (st.1 4) (-1)).1 4)) (C := R_S) (T := T_S) (N := 14) hx hb hts in_S hown h0.1 hw.1 0 rfl rfl 4 (by decide) (hg (.fieldLink R_S 101 "SecureEntry" "time" "I") (by decide +kernel)) (fun _ h9 => h9) rfl d_S_door_42 ?_
        refine lv_aload_n hx hb d_S_door_45 rfl (lv_at hl 0 rfl) ?_
        refine va_get (D := G.1) (ci := 2) (v := .ref (ad 1)) (C := R_S) (T := T_S) (N := 14) hx hb hts in_S hown h0.1 hw.1 0 rfl rfl 0 (by decide) (hg (.fieldLink R_S 18 "SecureEntry" "configuration" "[I") (by decide +kernel)) (fun _ h9 => h9) rfl d_S_door_46 ?_
        refine lv_iconst (v := 1) hx hb d_S_door_49 (by decide) ?_
        refine va_iald hx hb h0.1 hw.1 1 0 rfl rfl (show vp_in 1 6 by unfold vp_in; decide) d_S_door_50 ?_
        refine lv_iadd hx hb d_S_door_51 ?_
        refine va_put (D := G.1) (ci := 2) (v := .int (((f_write (sS st 13 p1) 9 (st.1 4) (-1)).1 4) + (((f_write (sS st 13 p1) 9 (st.1 4) (-1)).2.1 0) (1 : Int32).toNatClampNeg))) (ty := .int) (C := R_S) (T := T_S) (N := 14) hx hb hts in_S ty_S ty_S_ok n_S hown h0.1 hw.1 hw.2.1 hw.2.2 0 rfl rfl 12 (by decide) (hg (.fieldLink R_S 180 "SecureEntry" "alarmTime" "I") (by decide +kernel)) (fun _ h9 => h9) rfl (by decide +kernel) rfl rfl (Nat.le_of_ble_eq_true rfl) d_S_door_52 (fun H locs hP hD hS => ?_)
        have hI : InvC (sS (f_write (sS st 13 p1) 9 (st.1 4) (-1)) 12 (((f_write (sS st 13 p1) 9 (st.1 4) (-1)).1 4) + (((f_write (sS st 13 p1) 9 (st.1 4) (-1)).2.1 0) (1 : Int32).toNatClampNeg))) := inv_sS hI (by decide)
        have hw : z_wl G (wC ad G st ++ wr) s (wC ad G (sS (f_write (sS st 13 p1) 9 (st.1 4) (-1)) 12 (((f_write (sS st 13 p1) 9 (st.1 4) (-1)).1 4) + (((f_write (sS st 13 p1) 9 (st.1 4) (-1)).2.1 0) (1 : Int32).toNatClampNeg))) ++ wr) H locs := ⟨hP, hD, hS⟩
        refine lv_iconst (v := 1) hx hb d_S_door_55 (by decide) ?_
        exact z_iret (wf := fun u : CS => (wC ad G u ++ wr)) (u := (sS (f_write (sS st 13 p1) 9 (st.1 4) (-1)) 12 (((f_write (sS st 13 p1) 9 (st.1 4) (-1)).1 4) + (((f_write (sS st 13 p1) 9 (st.1 4) (-1)).2.1 0) (1 : Int32).toNatClampNeg)))) hx hb hr hlocks h0 hw rfl (by rw [f_door, if_neg c_5, if_neg c_16, if_pos c_23]) (Nat.le_of_ble_eq_true rfl) (Nat.le_of_ble_eq_true rfl) d_S_door_56
  · refine lv_iconst (v := 0) hx hb d_S_door_8 (by decide) ?_
    exact z_iret (wf := fun u : CS => (wC ad G u ++ wr)) (u := st) hx hb hr hlocks h0 hw rfl (by rw [f_door, if_pos c_5]) (Nat.le_of_ble_eq_true rfl) (Nat.le_of_ble_eq_true rfl) d_S_door_9
set_option maxHeartbeats 4000000 in
set_option maxRecDepth 100000 in
theorem c_S_entry (l : Launch) (hl9 : l.stackTraces = false) (G : gG) (ad : Nat → Nat) (st : CS) (wr : va_W) (sz : Nat) (p1 : Int32) (p2 : Int32) (hI : InvC st) : vx_Met l y_S_entry w_S_entry { frames := 6, cells := 1, slots := 6, locals := 81 } (va_Pc [.ref (ad 0), .int p1, .int p2] (z_pre G (wC ad G st ++ wr) sz)) (z_Qi G (wC ad G st ++ wr) sz (fun u : CS => (wC ad G u ++ wr)) (fun r u => f_entry st p1 p2 = .inr (r, u))) (z_X G (wC ad G st ++ wr) sz (fun E => f_entry st p1 p2 = .inl E)) 1 6 (va_A (wC ad G st ++ wr) sz) := by
  refine vx_ofW (cc := b_S_entry) (maxL := 3) (ret := (some .int)) (by decide) rfl ?_
  intro p e s m args below meth c s₁ B hml hex hv
  obtain ⟨rfl, hsz, hP, hK, hD0, ham⟩ := hv
  subst hsz
  have hx := B.exec
  have hb := B.bytes
  have hr := B.returns
  have hts : ∀ w ∈ goT, w.before _ s = true := fun w h => atoms_spec (ws := w_S_entry) B.pre w (List.mem_cons_of_mem _ h)
  have hg : ∀ w, goB w = true → w.before _ s = true := fun w h => hts w (goI h)
  have hown : s.vm.findClass R_S = some m.cls := findClass_of_methodNamed B.named
  have hlocks := B.notSynchronized
  have h0 : z_st G (wC ad G st ++ wr) s := ⟨hK, ham⟩
  have hw : z_wl G (wC ad G st ++ wr) s (wC ad G st ++ wr) s.heap [] := z_0 hP hD0
  have hl := lv_entry ([.ref (ad 0), .int p1, .int p2]) (n := 3) (Nat.le_of_ble_eq_true rfl)
  rw [lg_entry_eq]
  generalize (lg_sl ([.ref (ad 0), .int p1, .int p2]) ++ List.replicate (3 - (lg_sl ([.ref (ad 0), .int p1, .int p2])).length) Slot.unset).toArray = ls at hl ⊢
  have hl : lv_has ls 3 [(0, .ref (ad 0)), (1, .int p1), (2, .int p2)] := hl
  refine lv_iload_n hx hb d_S_entry_0 rfl (lv_at hl 1 rfl) ?_
  refine lv_iconst (v := 0) hx hb d_S_entry_1 (by decide) ?_
  refine lv_aload_n hx hb d_S_entry_2 rfl (lv_at hl 0 rfl) ?_
  refine va_get (D := G.1) (ci := 2) (v := .ref (ad 4)) (C := R_S) (T := T_S) (N := 14) hx hb hts in_S hown h0.1 hw.1 0 rfl rfl 3 (by decide) (hg (.fieldLink R_S 33 "SecureEntry" "log" "LSecureEntry$Log;") (by decide +kernel)) (fun _ h9 => h9) rfl d_S_entry_3 ?_
  refine va_get (D := G.1) (ci := 1) (v := .int (st.1 14)) (C := R_O) (T := T_O) (N := 5) hx hb hts in_O hown h0.1 hw.1 4 rfl rfl 3 (by decide) (hg (.fieldLink R_S 164 "SecureEntry$Log" "size" "I") (by decide +kernel)) (fun _ h9 => h9) rfl d_S_entry_6 ?_
  refine lv_iconst (v := 1) hx hb d_S_entry_9 (by decide) ?_
  refine lv_isub hx hb d_S_entry_10 ?_
  refine z_Si0 (As := [.int p1, .int 0, .int ((st.1 14) - 1)]) (v := (f_isWithin p1 0 ((st.1 14) - 1))) ⟨hx, hb, hml, hown, hts⟩ (c_S_isWithin l G (wC ad G st ++ wr) _ p1 0 ((st.1 14) - 1)) (cwS 3 hts gS_S_69 rfl rfl rfl (by decide +kernel) ⟨Nat.le_of_ble_eq_true rfl, Nat.le_of_ble_eq_true rfl⟩) h0 hw rfl hl.1 rfl (Nat.le_of_ble_eq_true rfl) d_S_entry_11 ⟨Nat.le_of_ble_eq_true rfl, Nat.le_of_ble_eq_true rfl⟩ (fun H locs hw => ?_)
  refine lv_if_ne (tgt := 25) hx hb d_S_entry_14 (by decide) (fun c_14 => ?_) (fun c_14 => ?_)
  · have hp1 : vp_in p1 16 := ent_in hI c_14
    refine lv_iload_n hx hb d_S_entry_25 rfl (lv_at hl 2 rfl) ?_
    rcases Classical.em (p2 = 0) with c_26_0 | c_26_0
    · refine lv_tableIn (tgt := 52) hx hb d_S_entry_26 (by rw [c_26_0]; decide) (by rw [c_26_0]; decide) (by rw [c_26_0]; rfl) (by decide) ?_
      refine lv_aload_n hx hb d_S_entry_52 rfl (lv_at hl 0 rfl) ?_
      refine va_get (D := G.1) (ci := 2) (v := .ref (ad 4)) (C := R_S) (T := T_S) (N := 14) hx hb hts in_S hown h0.1 hw.1 0 rfl rfl 3 (by decide) (hg (.fieldLink R_S 33 "SecureEntry" "log" "LSecureEntry$Log;") (by decide +kernel)) (fun _ h9 => h9) rfl d_S_entry_53 ?_
      refine va_get (D := G.1) (ci := 1) (v := .ref (ad 5)) (C := R_O) (T := T_O) (N := 5) hx hb hts in_O hown h0.1 hw.1 4 rfl rfl 0 (by decide) (hg (.fieldLink R_S 193 "SecureEntry$Log" "kinds" "[I") (by decide +kernel)) (fun _ h9 => h9) rfl d_S_entry_56 ?_
      refine lv_iload_n hx hb d_S_entry_59 rfl (lv_at hl 1 rfl) ?_
      refine va_iald hx hb h0.1 hw.1 5 0 rfl rfl (show vp_in p1 16 by assumption) d_S_entry_60 ?_
      exact vx_ret (z_iret (wf := fun u : CS => (wC ad G u ++ wr)) (u := st) hx hb hr hlocks h0 hw rfl (by rw [f_entry, if_neg c_14, if_pos c_26_0]) (Nat.le_of_ble_eq_true rfl) (Nat.le_of_ble_eq_true rfl) d_S_entry_61)
    · skip
      rcases Classical.em (p2 = 1) with c_26_1 | c_26_1
      · refine lv_tableIn (tgt := 62) hx hb d_S_entry_26 (by rw [c_26_1]; decide) (by rw [c_26_1]; decide) (by rw [c_26_1]; rfl) (by decide) ?_
        refine lv_aload_n hx hb d_S_entry_62 rfl (lv_at hl 0 rfl) ?_
        refine va_get (D := G.1) (ci := 2) (v := .ref (ad 4)) (C := R_S) (T := T_S) (N := 14) hx hb hts in_S hown h0.1 hw.1 0 rfl rfl 3 (by decide) (hg (.fieldLink R_S 33 "SecureEntry" "log" "LSecureEntry$Log;") (by decide +kernel)) (fun _ h9 => h9) rfl d_S_entry_63 ?_
        refine va_get (D := G.1) (ci := 1) (v := .ref (ad 6)) (C := R_O) (T := T_O) (N := 5) hx hb hts in_O hown h0.1 hw.1 4 rfl rfl 1 (by decide) (hg (.fieldLink R_S 196 "SecureEntry$Log" "times" "[I") (by decide +kernel)) (fun _ h9 => h9) rfl d_S_entry_66 ?_
        refine lv_iload_n hx hb d_S_entry_69 rfl (lv_at hl 1 rfl) ?_
        refine va_iald hx hb h0.1 hw.1 6 0 rfl rfl (show vp_in p1 16 by assumption) d_S_entry_70 ?_
        exact vx_ret (z_iret (wf := fun u : CS => (wC ad G u ++ wr)) (u := st) hx hb hr hlocks h0 hw rfl (by rw [f_entry, if_neg c_14, if_neg c_26_0, if_pos c_26_1]) (Nat.le_of_ble_eq_true rfl) (Nat.le_of_ble_eq_true rfl) d_S_entry_71)
      · skip
        rcases Classical.em (p2 = 2) with c_26_2 | c_26_2
        · refine lv_tableIn (tgt := 72) hx hb d_S_entry_26 (by rw [c_26_2]; decide) (by rw [c_26_2]; decide) (by rw [c_26_2]; rfl) (by decide) ?_
          refine lv_aload_n hx hb d_S_entry_72 rfl (lv_at hl 0 rfl) ?_
          refine va_get (D := G.1) (ci := 2) (v := .ref (ad 4)) (C := R_S) (T := T_S) (N := 14) hx hb hts in_S hown h0.1 hw.1 0 rfl rfl 3 (by decide) (hg (.fieldLink R_S 33 "SecureEntry" "log" "LSecureEntry$Log;") (by decide +kernel)) (fun _ h9 => h9) rfl d_S_entry_73 ?_
          refine va_get (D := G.1) (ci := 1) (v := .ref (ad 7)) (C := R_O) (T := T_O) (N := 5) hx hb hts in_O hown h0.1 hw.1 4 rfl rfl 2 (by decide) (hg (.fieldLink R_S 199 "SecureEntry$Log" "holders" "[I") (by decide +kernel)) (fun _ h9 => h9) rfl d_S_entry_76 ?_
          refine lv_iload_n hx hb d_S_entry_79 rfl (lv_at hl 1 rfl) ?_
          refine va_iald hx hb h0.1 hw.1 7 0 rfl rfl (show vp_in p1 16 by assumption) d_S_entry_80 ?_
          exact vx_ret (z_iret (wf := fun u : CS => (wC ad G u ++ wr)) (u := st) hx hb hr hlocks h0 hw rfl (by rw [f_entry, if_neg c_14, if_neg c_26_0, if_neg c_26_1, if_pos c_26_2]) (Nat.le_of_ble_eq_true rfl) (Nat.le_of_ble_eq_true rfl) d_S_entry_81)
        · refine lv_tableOut (tgt := 82) hx hb d_S_entry_26 (z_tout3 c_26_0 c_26_1 c_26_2) (by decide) ?_
          exact z_throw0 (cls := "java/lang/IllegalArgumentException") (ic := 56) hx hb hl9 hown (hg (.classLink R_S 54 "java/lang/IllegalArgumentException") (by decide +kernel)) (hg (.initialized "java/lang/IllegalArgumentException") (by decide +kernel)) (hat_S56 hts h0.2.1) (by decide +kernel) h0 hw (hl.1.trans hml.symm) d_S_entry_82 d_S_entry_85 d_S_entry_86 d_S_entry_89 hex (Nat.le_of_ble_eq_true rfl) (Nat.le_of_ble_eq_true rfl) (Nat.le_of_ble_eq_true rfl) (Nat.le_of_ble_eq_true rfl) hlocks (by rw [f_entry, if_neg c_14, if_neg c_26_0, if_neg c_26_1, if_neg c_26_2]) (Nat.le_of_ble_eq_true rfl) (Nat.le_of_ble_eq_true rfl)
  · exact z_throw0 (cls := "java/util/NoSuchElementException") (ic := 192) hx hb hl9 hown (hg (.classLink R_S 190 "java/util/NoSuchElementException") (by decide +kernel)) (hg (.initialized "java/util/NoSuchElementException") (by decide +kernel)) (hat_S192 hts h0.2.1) (by decide +kernel) h0 hw (hl.1.trans hml.symm) d_S_entry_17 d_S_entry_20 d_S_entry_21 d_S_entry_24 hex (Nat.le_of_ble_eq_true rfl) (Nat.le_of_ble_eq_true rfl) (Nat.le_of_ble_eq_true rfl) (Nat.le_of_ble_eq_true rfl) hlocks (by rw [f_entry, if_pos c_14]) (Nat.le_of_ble_eq_true rfl) (Nat.le_of_ble_eq_true rfl)
set_option maxHeartbeats 4000000 in
set_option maxRecDepth 100000 in
theorem c_S_certificate (l : Launch) (hl9 : l.stackTraces = false) (G : gG) (ad : Nat → Nat) (st : CS) (wr : va_W) (sz : Nat) (p1 : Int32) (p2 : Int32) (p3 : Int32) (hI : InvC st) : vx_Met l y_S_certificate w_S_certificate { frames := 7, cells := 2, slots := 12, locals := 101 } (va_Pc [.ref (ad 0), .int p1, .int p2, .int p3] (z_pre G (wC ad G st ++ wr) sz)) (z_Qi G (wC ad G st ++ wr) sz (fun u : CS => (wC ad G u ++ wr)) (fun r u => f_certificate st p1 p2 p3 = .inr (r, u))) (z_X G (wC ad G st ++ wr) sz (fun E => f_certificate st p1 p2 p3 = .inl E)) 2 12 (va_A (wC ad G st ++ wr) sz) := by
  refine vx_ofW (cc := b_S_certificate) (maxL := 5) (ret := (some .int)) (by decide) rfl ?_
  intro p e s m args below meth c s₁ B hml hex hv
  obtain ⟨rfl, hsz, hP, hK, hD0, ham⟩ := hv
  subst hsz
  have hx := B.exec
  have hb := B.bytes
  have hr := B.returns
  have hts : ∀ w ∈ goT, w.before _ s = true := fun w h => atoms_spec (ws := w_S_certificate) B.pre w (List.mem_cons_of_mem _ h)
  have hg : ∀ w, goB w = true → w.before _ s = true := fun w h => hts w (goI h)
  have hown : s.vm.findClass R_S = some m.cls := findClass_of_methodNamed B.named
  have hlocks := B.notSynchronized
  have h0 : z_st G (wC ad G st ++ wr) s := ⟨hK, ham⟩
  have hw : z_wl G (wC ad G st ++ wr) s (wC ad G st ++ wr) s.heap [] := z_0 hP hD0
  have hl := lv_entry ([.ref (ad 0), .int p1, .int p2, .int p3]) (n := 5) (Nat.le_of_ble_eq_true rfl)
  rw [lg_entry_eq]
  generalize (lg_sl ([.ref (ad 0), .int p1, .int p2, .int p3]) ++ List.replicate (5 - (lg_sl ([.ref (ad 0), .int p1, .int p2, .int p3])).length) Slot.unset).toArray = ls at hl ⊢
  have hl : lv_has ls 5 [(0, .ref (ad 0)), (1, .int p1), (2, .int p2), (3, .int p3)] := hl
  refine lv_iload_n hx hb d_S_certificate_0 rfl (lv_at hl 1 rfl) ?_
  refine z_SXn (As := [.int p1]) (P := fun E => (f_requireToken p1) = some E) (N := (f_requireToken p1) = none) ⟨hx, hb, hml, hown, hts⟩ (c_S_requireToken l hl9 G (wC ad G st ++ wr) _ p1) (cwS 1 hts gS_S_65 rfl rfl rfl (by decide +kernel) ⟨Nat.le_of_ble_eq_true rfl, Nat.le_of_ble_eq_true rfl⟩) h0 hw rfl hl.1 rfl (Nat.le_of_ble_eq_true rfl) d_S_certificate_1 ⟨Nat.le_of_ble_eq_true rfl, Nat.le_of_ble_eq_true rfl⟩ (fun E ce q9 H locs hE hw hce hcv hcl => z_out hex hlocks h0 hw hce hcv hcl (by rw [f_certificate, hE, exo_some]) (Nat.le_of_ble_eq_true rfl) (Nat.le_of_ble_eq_true rfl)) (fun H locs hn_1 hw => ?_)
  have hp1 : vp_in p1 6 := rtk_in hn_1
  refine lv_iload_n hx hb d_S_certificate_4 rfl (lv_at hl 2 rfl) ?_
  refine lv_iconst (v := 0) hx hb d_S_certificate_5 (by decide) ?_
  refine lv_iconst (v := 3) hx hb d_S_certificate_6 (by decide) ?_
  refine z_Si0 (As := [.int p2, .int 0, .int 3]) (v := (f_isWithin p2 0 3)) ⟨hx, hb, hml, hown, hts⟩ (c_S_isWithin l G (wC ad G st ++ wr) _ p2 0 3) (cwS 3 hts gS_S_69 rfl rfl rfl (by decide +kernel) ⟨Nat.le_of_ble_eq_true rfl, Nat.le_of_ble_eq_true rfl⟩) h0 hw rfl hl.1 rfl (Nat.le_of_ble_eq_true rfl) d_S_certificate_7 ⟨Nat.le_of_ble_eq_true rfl, Nat.le_of_ble_eq_true rfl⟩ (fun H locs hw => ?_)
  refine lv_if_eq (tgt := 23) hx hb d_S_certificate_10 (by decide) (fun c_10 => ?_) (fun c_10 => ?_)
  · exact z_throw0 (cls := "java/lang/IllegalArgumentException") (ic := 56) hx hb hl9 hown (hg (.classLink R_S 54 "java/lang/IllegalArgumentException") (by decide +kernel)) (hg (.initialized "java/lang/IllegalArgumentException") (by decide +kernel)) (hat_S56 hts h0.2.1) (by decide +kernel) h0 hw (hl.1.trans hml.symm) d_S_certificate_23 d_S_certificate_26 d_S_certificate_27 d_S_certificate_30 hex (Nat.le_of_ble_eq_true rfl) (Nat.le_of_ble_eq_true rfl) (Nat.le_of_ble_eq_true rfl) (Nat.le_of_ble_eq_true rfl) hlocks (by rw [f_certificate, hn_1, exo_none, if_pos c_10]) (Nat.le_of_ble_eq_true rfl) (Nat.le_of_ble_eq_true rfl)
  · have hp2 : vp_in p2 4 := win_in c_10 (by decide)
    refine lv_iload_n hx hb d_S_certificate_13 rfl (lv_at hl 3 rfl) ?_
    refine lv_iconst (v := 0) hx hb d_S_certificate_14 (by decide) ?_
    refine lv_bipush (v := 6) hx hb d_S_certificate_15 (by decide) ?_
    refine z_Si0 (As := [.int p3, .int 0, .int 6]) (v := (f_isWithin p3 0 6)) ⟨hx, hb, hml, hown, hts⟩ (c_S_isWithin l G (wC ad G st ++ wr) _ p3 0 6) (cwS 3 hts gS_S_69 rfl rfl rfl (by decide +kernel) ⟨Nat.le_of_ble_eq_true rfl, Nat.le_of_ble_eq_true rfl⟩) h0 hw rfl hl.1 rfl (Nat.le_of_ble_eq_true rfl) d_S_certificate_17 ⟨Nat.le_of_ble_eq_true rfl, Nat.le_of_ble_eq_true rfl⟩ (fun H locs hw => ?_)
    refine lv_if_ne (tgt := 31) hx hb d_S_certificate_20 (by decide) (fun c_20 => ?_) (fun c_20 => ?_)
    · refine lv_aload_n hx hb d_S_certificate_31 rfl (lv_at hl 0 rfl) ?_
      refine lv_iload_n hx hb d_S_certificate_32 rfl (lv_at hl 1 rfl) ?_
      refine lv_iload_n hx hb d_S_certificate_33 rfl (lv_at hl 2 rfl) ?_
      refine z_Vq0 (As := [.int p1, .int p2]) (v := (f_certificateOf st p1 p2)) ⟨hx, hb, hml, hown, hts⟩ (c_S_certificateOf l G ad st wr _ p1 p2 (by first | assumption | exact hI.2.2.2.1 | exact hI.2.2.2.2 | (unfold vp_in; decide) | exact Or.inr (by assumption) | exact cof_mem hI | (intro a h; cases h; assumption) | exact (hI.2.1 _ (by assumption)).1) (by first | assumption | exact hI.2.2.2.1 | exact hI.2.2.2.2 | (unfold vp_in; decide) | exact Or.inr (by assumption) | exact cof_mem hI | (intro a h; cases h; assumption) | exact (hI.2.1 _ (by assumption)).1)) (cwV 2 hts gV_S_76 rfl rfl rfl (by decide +kernel) ⟨Nat.le_of_ble_eq_true rfl, Nat.le_of_ble_eq_true rfl⟩) h0 hw 0 rfl rfl rfl rfl hl.1 rfl (Nat.le_of_ble_eq_true rfl) d_S_certificate_34 ⟨Nat.le_of_ble_eq_true rfl, Nat.le_of_ble_eq_true rfl⟩ (fun H locs hw => ?_)
      refine z_astore (r := (f_certificateOf st p1 p2)) (lv' := [(4, va_rf (f_certificateOf st p1 p2)), (0, .ref (ad 0)), (1, .int p1), (2, .int p2), (3, .int p3)]) hx hb d_S_certificate_37 hl (by decide) rfl (fun ls hl => ?_)
      refine z_aload (r := (f_certificateOf st p1 p2)) hx hb d_S_certificate_39 (lv_at hl 0 rfl) ?_
      refine z_ifnonnull (r := (f_certificateOf st p1 p2)) (tgt := 52) hx hb d_S_certificate_41 (by decide) (fun e_41 => ?_) (fun a_41 e_41 => ?_)
      · have hl : lv_has ls 5 [(4, .null), (0, .ref (ad 0)), (1, .int p1), (2, .int p2), (3, .int p3)] := by rw [e_41] at hl; exact hl
        exact z_throw0 (cls := "java/util/NoSuchElementException") (ic := 192) hx hb hl9 hown (hg (.classLink R_S 190 "java/util/NoSuchElementException") (by decide +kernel)) (hg (.initialized "java/util/NoSuchElementException") (by decide +kernel)) (hat_S192 hts h0.2.1) (by decide +kernel) h0 hw (hl.1.trans hml.symm) d_S_certificate_44 d_S_certificate_47 d_S_certificate_48 d_S_certificate_51 hex (Nat.le_of_ble_eq_true rfl) (Nat.le_of_ble_eq_true rfl) (Nat.le_of_ble_eq_true rfl) (Nat.le_of_ble_eq_true rfl) hlocks (by rw [f_certificate, hn_1, exo_none, if_neg c_10, if_neg c_20, e_41, oel_none]) (Nat.le_of_ble_eq_true rfl) (Nat.le_of_ble_eq_true rfl)
      · have hl : lv_has ls 5 [(4, .ref a_41), (0, .ref (ad 0)), (1, .int p1), (2, .int p2), (3, .int p3)] := by rw [e_41] at hl; exact hl
        have hm_a_41 : a_41 ∈ st.2.2.2.1 := cof_mem hI _ e_41
        refine lv_iload_n hx hb d_S_certificate_52 rfl (lv_at hl 4 rfl) ?_
        rcases Classical.em (p3 = 0) with c_53_0 | c_53_0
        · refine lv_tableIn (tgt := 92) hx hb d_S_certificate_53 (by rw [c_53_0]; decide) (by rw [c_53_0]; decide) (by rw [c_53_0]; rfl) (by decide) ?_
          refine lv_aload hx hb d_S_certificate_92 (lv_at hl 0 rfl) ?_
          obtain ⟨k_94, hk_94⟩ := z_pool (ad := ad) (G := G) (wr := wr) (st := st) hm_a_41
          refine va_get (D := G.1) (ci := 0) (v := .int (st.2.2.2.2 a_41 1)) (C := R_C) (T := T_C) (N := 7) hx hb hts in_C hown h0.1 hw.1 k_94 hk_94 rfl 1 (by decide) (hg (.fieldLink R_S 202 "SecureEntry$Certificate" "issuer" "I") (by decide +kernel)) (fun _ h9 => h9) rfl d_S_certificate_94 ?_
          exact vx_ret (z_iret (wf := fun u : CS => (wC ad G u ++ wr)) (u := st) hx hb hr hlocks h0 hw rfl (by rw [f_certificate, hn_1, exo_none, if_neg c_10, if_neg c_20, e_41, oel_some, if_pos c_53_0]) (Nat.le_of_ble_eq_true rfl) (Nat.le_of_ble_eq_true rfl) d_S_certificate_97)
        · skip
          rcases Classical.em (p3 = 1) with c_53_1 | c_53_1
          · refine lv_tableIn (tgt := 98) hx hb d_S_certificate_53 (by rw [c_53_1]; decide) (by rw [c_53_1]; decide) (by rw [c_53_1]; rfl) (by decide) ?_
            refine lv_aload hx hb d_S_certificate_98 (lv_at hl 0 rfl) ?_
            obtain ⟨k_100, hk_100⟩ := z_pool (ad := ad) (G := G) (wr := wr) (st := st) hm_a_41
            refine va_get (D := G.1) (ci := 0) (v := .int (st.2.2.2.2 a_41 2)) (C := R_C) (T := T_C) (N := 7) hx hb hts in_C hown h0.1 hw.1 k_100 hk_100 rfl 2 (by decide) (hg (.fieldLink R_S 205 "SecureEntry$Certificate" "holder" "I") (by decide +kernel)) (fun _ h9 => h9) rfl d_S_certificate_100 ?_
            exact vx_ret (z_iret (wf := fun u : CS => (wC ad G u ++ wr)) (u := st) hx hb hr hlocks h0 hw rfl (by rw [f_certificate, hn_1, exo_none, if_neg c_10, if_neg c_20, e_41, oel_some, if_neg c_53_0, if_pos c_53_1]) (Nat.le_of_ble_eq_true rfl) (Nat.le_of_ble_eq_true rfl) d_S_certificate_103)
          · skip
            rcases Classical.em (p3 = 2) with c_53_2 | c_53_2
            · refine lv_tableIn (tgt := 104) hx hb d_S_certificate_53 (by rw [c_53_2]; decide) (by rw [c_53_2]; decide) (by rw [c_53_2]; rfl) (by decide) ?_
              refine lv_aload hx hb d_S_certificate_104 (lv_at hl 0 rfl) ?_
              obtain ⟨k_106, hk_106⟩ := z_pool (ad := ad) (G := G) (wr := wr) (st := st) hm_a_41
              refine va_get (D := G.1) (ci := 0) (v := .int (st.2.2.2.2 a_41 3)) (C := R_C) (T := T_C) (N := 7) hx hb hts in_C hown h0.1 hw.1 k_106 hk_106 rfl 3 (by decide) (hg (.fieldLink R_S 131 "SecureEntry$Certificate" "value" "I") (by decide +kernel)) (fun _ h9 => h9) rfl d_S_certificate_106 ?_
              exact vx_ret (z_iret (wf := fun u : CS => (wC ad G u ++ wr)) (u := st) hx hb hr hlocks h0 hw rfl (by rw [f_certificate, hn_1, exo_none, if_neg c_10, if_neg c_20, e_41, oel_some, if_neg c_53_0, if_neg c_53_1, if_pos c_53_2]) (Nat.le_of_ble_eq_true rfl) (Nat.le_of_ble_eq_true rfl) d_S_certificate_109)
            · skip
              rcases Classical.em (p3 = 3) with c_53_3 | c_53_3
              · refine lv_tableIn (tgt := 110) hx hb d_S_certificate_53 (by rw [c_53_3]; decide) (by rw [c_53_3]; decide) (by rw [c_53_3]; rfl) (by decide) ?_
                refine lv_aload hx hb d_S_certificate_110 (lv_at hl 0 rfl) ?_
                obtain ⟨k_112, hk_112⟩ := z_pool (ad := ad) (G := G) (wr := wr) (st := st) hm_a_41
                refine va_get (D := G.1) (ci := 0) (v := .int (st.2.2.2.2 a_41 4)) (C := R_C) (T := T_C) (N := 7) hx hb hts in_C hown h0.1 hw.1 k_112 hk_112 rfl 4 (by decide) (hg (.fieldLink R_S 208 "SecureEntry$Certificate" "from" "I") (by decide +kernel)) (fun _ h9 => h9) rfl d_S_certificate_112 ?_
                exact vx_ret (z_iret (wf := fun u : CS => (wC ad G u ++ wr)) (u := st) hx hb hr hlocks h0 hw rfl (by rw [f_certificate, hn_1, exo_none, if_neg c_10, if_neg c_20, e_41, oel_some, if_neg c_53_0, if_neg c_53_1, if_neg c_53_2, if_pos c_53_3]) (Nat.le_of_ble_eq_true rfl) (Nat.le_of_ble_eq_true rfl) d_S_certificate_115)
              · skip
                rcases Classical.em (p3 = 4) with c_53_4 | c_53_4
                · refine lv_tableIn (tgt := 116) hx hb d_S_certificate_53 (by rw [c_53_4]; decide) (by rw [c_53_4]; decide) (by rw [c_53_4]; rfl) (by decide) ?_
                  refine lv_aload hx hb d_S_certificate_116 (lv_at hl 0 rfl) ?_
                  obtain ⟨k_118, hk_118⟩ := z_pool (ad := ad) (G := G) (wr := wr) (st := st) hm_a_41
                  refine va_get (D := G.1) (ci := 0) (v := .int (st.2.2.2.2 a_41 5)) (C := R_C) (T := T_C) (N := 7) hx hb hts in_C hown h0.1 hw.1 k_118 hk_118 rfl 5 (by decide) (hg (.fieldLink R_S 211 "SecureEntry$Certificate" "to" "I") (by decide +kernel)) (fun _ h9 => h9) rfl d_S_certificate_118 ?_
                  exact vx_ret (z_iret (wf := fun u : CS => (wC ad G u ++ wr)) (u := st) hx hb hr hlocks h0 hw rfl (by rw [f_certificate, hn_1, exo_none, if_neg c_10, if_neg c_20, e_41, oel_some, if_neg c_53_0, if_neg c_53_1, if_neg c_53_2, if_neg c_53_3, if_pos c_53_4]) (Nat.le_of_ble_eq_true rfl) (Nat.le_of_ble_eq_true rfl) d_S_certificate_121)
                · skip
                  rcases Classical.em (p3 = 5) with c_53_5 | c_53_5
                  · refine lv_tableIn (tgt := 122) hx hb d_S_certificate_53 (by rw [c_53_5]; decide) (by rw [c_53_5]; decide) (by rw [c_53_5]; rfl) (by decide) ?_
                    refine lv_aload hx hb d_S_certificate_122 (lv_at hl 0 rfl) ?_
                    obtain ⟨k_124, hk_124⟩ := z_pool (ad := ad) (G := G) (wr := wr) (st := st) hm_a_41
                    refine va_get (D := G.1) (ci := 0) (v := .int (st.2.2.2.2 a_41 6)) (C := R_C) (T := T_C) (N := 7) hx hb hts in_C hown h0.1 hw.1 k_124 hk_124 rfl 6 (by decide) (hg (.fieldLink R_S 214 "SecureEntry$Certificate" "signature" "I") (by decide +kernel)) (fun _ h9 => h9) rfl d_S_certificate_124 ?_
                    exact vx_ret (z_iret (wf := fun u : CS => (wC ad G u ++ wr)) (u := st) hx hb hr hlocks h0 hw rfl (by rw [f_certificate, hn_1, exo_none, if_neg c_10, if_neg c_20, e_41, oel_some, if_neg c_53_0, if_neg c_53_1, if_neg c_53_2, if_neg c_53_3, if_neg c_53_4, if_pos c_53_5]) (Nat.le_of_ble_eq_true rfl) (Nat.le_of_ble_eq_true rfl) d_S_certificate_127)
                  · refine lv_tableOut (tgt := 128) hx hb d_S_certificate_53 (z_tout6 c_53_0 c_53_1 c_53_2 c_53_3 c_53_4 c_53_5) (by decide) ?_
                    refine lv_aload_n hx hb d_S_certificate_128 rfl (lv_at hl 1 rfl) ?_
                    refine lv_aload hx hb d_S_certificate_129 (lv_at hl 0 rfl) ?_
                    refine z_Vi0 (As := [.ref a_41]) (v := (f_isValid st (some a_41))) ⟨hx, hb, hml, hown, hts⟩ (c_S_isValid l G ad st wr _ (some a_41) (by first | assumption | exact hI.2.2.2.1 | exact hI.2.2.2.2 | (unfold vp_in; decide) | exact Or.inr (by assumption) | exact cof_mem hI | (intro a h; cases h; assumption) | exact (hI.2.1 _ (by assumption)).1) (by first | assumption | exact hI.2.2.2.1 | exact hI.2.2.2.2 | (unfold vp_in; decide) | exact Or.inr (by assumption) | exact cof_mem hI | (intro a h; cases h; assumption) | exact (hI.2.1 _ (by assumption)).1)) (cwV 1 hts gV_S_217 rfl rfl rfl (by decide +kernel) ⟨Nat.le_of_ble_eq_true rfl, Nat.le_of_ble_eq_true rfl⟩) h0 hw 0 rfl rfl rfl rfl hl.1 rfl (Nat.le_of_ble_eq_true rfl) d_S_certificate_131 ⟨Nat.le_of_ble_eq_true rfl, Nat.le_of_ble_eq_true rfl⟩ (fun H locs hw => ?_)
                    refine z_Si0 (As := [.int (f_isValid st (some a_41))]) (v := (f_asNumber (f_isValid st (some a_41)))) ⟨hx, hb, hml, hown, hts⟩ (c_S_asNumber l G (wC ad G st ++ wr) _ (f_isValid st (some a_41))) (cwS 1 hts gS_S_221 rfl rfl rfl (by decide +kernel) ⟨Nat.le_of_ble_eq_true rfl, Nat.le_of_ble_eq_true rfl⟩) h0 hw rfl hl.1 rfl (Nat.le_of_ble_eq_true rfl) d_S_certificate_134 ⟨Nat.le_of_ble_eq_true rfl, Nat.le_of_ble_eq_true rfl⟩ (fun H locs hw => ?_)
                    exact vx_ret (z_iret (wf := fun u : CS => (wC ad G u ++ wr)) (u := st) hx hb hr hlocks h0 hw rfl (by rw [f_certificate, hn_1, exo_none, if_neg c_10, if_neg c_20, e_41, oel_some, if_neg c_53_0, if_neg c_53_1, if_neg c_53_2, if_neg c_53_3, if_neg c_53_4, if_neg c_53_5]) (Nat.le_of_ble_eq_true rfl) (Nat.le_of_ble_eq_true rfl) d_S_certificate_137)
    · exact z_throw0 (cls := "java/lang/IllegalArgumentException") (ic := 56) hx hb hl9 hown (hg (.classLink R_S 54 "java/lang/IllegalArgumentException") (by decide +kernel)) (hg (.initialized "java/lang/IllegalArgumentException") (by decide +kernel)) (hat_S56 hts h0.2.1) (by decide +kernel) h0 hw (hl.1.trans hml.symm) d_S_certificate_23 d_S_certificate_26 d_S_certificate_27 d_S_certificate_30 hex (Nat.le_of_ble_eq_true rfl) (Nat.le_of_ble_eq_true rfl) (Nat.le_of_ble_eq_true rfl) (Nat.le_of_ble_eq_true rfl) hlocks (by rw [f_certificate, hn_1, exo_none, if_neg c_10, if_pos c_20]) (Nat.le_of_ble_eq_true rfl) (Nat.le_of_ble_eq_true rfl)
set_option maxHeartbeats 4000000 in
set_option maxRecDepth 100000 in
theorem c_S_count (l : Launch) (hl9 : l.stackTraces = false) (G : gG) (ad : Nat → Nat) (st : CS) (wr : va_W) (sz : Nat) (p1 : Int32)  : vx_Met l y_S_count w_S_count { frames := 6, cells := 1, slots := 6, locals := 81 } (va_Pc [.ref (ad 0), .int p1] (z_pre G (wC ad G st ++ wr) sz)) (z_Qi G (wC ad G st ++ wr) sz (fun u : CS => (wC ad G u ++ wr)) (fun r u => f_count st p1 = .inr (r, u))) (z_X G (wC ad G st ++ wr) sz (fun E => f_count st p1 = .inl E)) 1 6 (va_A (wC ad G st ++ wr) sz) := by
  refine vx_ofW (cc := b_S_count) (maxL := 2) (ret := (some .int)) (by decide) rfl ?_
  intro p e s m args below meth c s₁ B hml hex hv
  obtain ⟨rfl, hsz, hP, hK, hD0, ham⟩ := hv
  subst hsz
  have hx := B.exec
  have hb := B.bytes
  have hr := B.returns
  have hts : ∀ w ∈ goT, w.before _ s = true := fun w h => atoms_spec (ws := w_S_count) B.pre w (List.mem_cons_of_mem _ h)
  have hg : ∀ w, goB w = true → w.before _ s = true := fun w h => hts w (goI h)
  have hown : s.vm.findClass R_S = some m.cls := findClass_of_methodNamed B.named
  have hlocks := B.notSynchronized
  have h0 : z_st G (wC ad G st ++ wr) s := ⟨hK, ham⟩
  have hw : z_wl G (wC ad G st ++ wr) s (wC ad G st ++ wr) s.heap [] := z_0 hP hD0
  have hl := lv_entry ([.ref (ad 0), .int p1]) (n := 2) (Nat.le_of_ble_eq_true rfl)
  rw [lg_entry_eq]
  generalize (lg_sl ([.ref (ad 0), .int p1]) ++ List.replicate (2 - (lg_sl ([.ref (ad 0), .int p1])).length) Slot.unset).toArray = ls at hl ⊢
  have hl : lv_has ls 2 [(0, .ref (ad 0)), (1, .int p1)] := hl
  refine lv_iload_n hx hb d_S_count_0 rfl (lv_at hl 1 rfl) ?_
  rcases Classical.em (p1 = 0) with c_1_0 | c_1_0
  · refine lv_tableIn (tgt := 60) hx hb d_S_count_1 (by rw [c_1_0]; decide) (by rw [c_1_0]; decide) (by rw [c_1_0]; rfl) (by decide) ?_
    refine lv_aload_n hx hb d_S_count_60 rfl (lv_at hl 0 rfl) ?_
    refine va_get (D := G.1) (ci := 2) (v := .int (st.1 5)) (C := R_S) (T := T_S) (N := 14) hx hb hts in_S hown h0.1 hw.1 0 rfl rfl 5 (by decide) (hg (.fieldLink R_S 87 "SecureEntry" "up" "Z") (by decide +kernel)) (fun _ h9 => h9) rfl d_S_count_61 ?_
    refine z_Si0 (As := [.int (st.1 5)]) (v := (f_asNumber (st.1 5))) ⟨hx, hb, hml, hown, hts⟩ (c_S_asNumber l G (wC ad G st ++ wr) _ (st.1 5)) (cwS 1 hts gS_S_221 rfl rfl rfl (by decide +kernel) ⟨Nat.le_of_ble_eq_true rfl, Nat.le_of_ble_eq_true rfl⟩) h0 hw rfl hl.1 rfl (Nat.le_of_ble_eq_true rfl) d_S_count_64 ⟨Nat.le_of_ble_eq_true rfl, Nat.le_of_ble_eq_true rfl⟩ (fun H locs hw => ?_)
    exact vx_ret (z_iret (wf := fun u : CS => (wC ad G u ++ wr)) (u := st) hx hb hr hlocks h0 hw rfl (by rw [f_count, if_pos c_1_0]) (Nat.le_of_ble_eq_true rfl) (Nat.le_of_ble_eq_true rfl) d_S_count_67)
  · skip
    rcases Classical.em (p1 = 1) with c_1_1 | c_1_1
    · refine lv_tableIn (tgt := 68) hx hb d_S_count_1 (by rw [c_1_1]; decide) (by rw [c_1_1]; decide) (by rw [c_1_1]; rfl) (by decide) ?_
      refine lv_aload_n hx hb d_S_count_68 rfl (lv_at hl 0 rfl) ?_
      refine va_get (D := G.1) (ci := 2) (v := .int (st.1 6)) (C := R_S) (T := T_S) (N := 14) hx hb hts in_S hown h0.1 hw.1 0 rfl rfl 6 (by decide) (hg (.fieldLink R_S 37 "SecureEntry" "userState" "I") (by decide +kernel)) (fun _ h9 => h9) rfl d_S_count_69 ?_
      exact vx_ret (z_iret (wf := fun u : CS => (wC ad G u ++ wr)) (u := st) hx hb hr hlocks h0 hw rfl (by rw [f_count, if_neg c_1_0, if_pos c_1_1]) (Nat.le_of_ble_eq_true rfl) (Nat.le_of_ble_eq_true rfl) d_S_count_72)
    · skip
      rcases Classical.em (p1 = 2) with c_1_2 | c_1_2
      · refine lv_tableIn (tgt := 73) hx hb d_S_count_1 (by rw [c_1_2]; decide) (by rw [c_1_2]; decide) (by rw [c_1_2]; rfl) (by decide) ?_
        refine lv_aload_n hx hb d_S_count_73 rfl (lv_at hl 0 rfl) ?_
        refine va_get (D := G.1) (ci := 2) (v := .int (st.1 10)) (C := R_S) (T := T_S) (N := 14) hx hb hts in_S hown h0.1 hw.1 0 rfl rfl 10 (by decide) (hg (.fieldLink R_S 47 "SecureEntry" "administratorRole" "I") (by decide +kernel)) (fun _ h9 => h9) rfl d_S_count_74 ?_
        exact vx_ret (z_iret (wf := fun u : CS => (wC ad G u ++ wr)) (u := st) hx hb hr hlocks h0 hw rfl (by rw [f_count, if_neg c_1_0, if_neg c_1_1, if_pos c_1_2]) (Nat.le_of_ble_eq_true rfl) (Nat.le_of_ble_eq_true rfl) d_S_count_77)
      · skip
        rcases Classical.em (p1 = 3) with c_1_3 | c_1_3
        · refine lv_tableIn (tgt := 78) hx hb d_S_count_1 (by rw [c_1_3]; decide) (by rw [c_1_3]; decide) (by rw [c_1_3]; rfl) (by decide) ?_
          refine lv_aload_n hx hb d_S_count_78 rfl (lv_at hl 0 rfl) ?_
          refine z_Vi0 (As := []) (v := (f_isUnlocked st)) ⟨hx, hb, hml, hown, hts⟩ (c_S_isUnlocked l G ad st wr _) (cwV 0 hts gV_S_176 rfl rfl rfl (by decide +kernel) ⟨Nat.le_of_ble_eq_true rfl, Nat.le_of_ble_eq_true rfl⟩) h0 hw 0 rfl rfl rfl rfl hl.1 rfl (Nat.le_of_ble_eq_true rfl) d_S_count_79 ⟨Nat.le_of_ble_eq_true rfl, Nat.le_of_ble_eq_true rfl⟩ (fun H locs hw => ?_)
          refine z_Si0 (As := [.int (f_isUnlocked st)]) (v := (f_asNumber (f_isUnlocked st))) ⟨hx, hb, hml, hown, hts⟩ (c_S_asNumber l G (wC ad G st ++ wr) _ (f_isUnlocked st)) (cwS 1 hts gS_S_221 rfl rfl rfl (by decide +kernel) ⟨Nat.le_of_ble_eq_true rfl, Nat.le_of_ble_eq_true rfl⟩) h0 hw rfl hl.1 rfl (Nat.le_of_ble_eq_true rfl) d_S_count_82 ⟨Nat.le_of_ble_eq_true rfl, Nat.le_of_ble_eq_true rfl⟩ (fun H locs hw => ?_)
          exact vx_ret (z_iret (wf := fun u : CS => (wC ad G u ++ wr)) (u := st) hx hb hr hlocks h0 hw rfl (by rw [f_count, if_neg c_1_0, if_neg c_1_1, if_neg c_1_2, if_pos c_1_3]) (Nat.le_of_ble_eq_true rfl) (Nat.le_of_ble_eq_true rfl) d_S_count_85)
        · skip
          rcases Classical.em (p1 = 4) with c_1_4 | c_1_4
          · refine lv_tableIn (tgt := 86) hx hb d_S_count_1 (by rw [c_1_4]; decide) (by rw [c_1_4]; decide) (by rw [c_1_4]; rfl) (by decide) ?_
            refine lv_aload_n hx hb d_S_count_86 rfl (lv_at hl 0 rfl) ?_
            refine va_get (D := G.1) (ci := 2) (v := .int (st.1 13)) (C := R_S) (T := T_S) (N := 14) hx hb hts in_S hown h0.1 hw.1 0 rfl rfl 13 (by decide) (hg (.fieldLink R_S 173 "SecureEntry" "doorOpen" "Z") (by decide +kernel)) (fun _ h9 => h9) rfl d_S_count_87 ?_
            refine z_Si0 (As := [.int (st.1 13)]) (v := (f_asNumber (st.1 13))) ⟨hx, hb, hml, hown, hts⟩ (c_S_asNumber l G (wC ad G st ++ wr) _ (st.1 13)) (cwS 1 hts gS_S_221 rfl rfl rfl (by decide +kernel) ⟨Nat.le_of_ble_eq_true rfl, Nat.le_of_ble_eq_true rfl⟩) h0 hw rfl hl.1 rfl (Nat.le_of_ble_eq_true rfl) d_S_count_90 ⟨Nat.le_of_ble_eq_true rfl, Nat.le_of_ble_eq_true rfl⟩ (fun H locs hw => ?_)
            exact vx_ret (z_iret (wf := fun u : CS => (wC ad G u ++ wr)) (u := st) hx hb hr hlocks h0 hw rfl (by rw [f_count, if_neg c_1_0, if_neg c_1_1, if_neg c_1_2, if_neg c_1_3, if_pos c_1_4]) (Nat.le_of_ble_eq_true rfl) (Nat.le_of_ble_eq_true rfl) d_S_count_93)
          · skip
            rcases Classical.em (p1 = 5) with c_1_5 | c_1_5
            · refine lv_tableIn (tgt := 94) hx hb d_S_count_1 (by rw [c_1_5]; decide) (by rw [c_1_5]; decide) (by rw [c_1_5]; rfl) (by decide) ?_
              refine lv_aload_n hx hb d_S_count_94 rfl (lv_at hl 0 rfl) ?_
              refine z_Vi0 (As := []) (v := (f_isAlarmSounding st)) ⟨hx, hb, hml, hown, hts⟩ (c_S_isAlarmSounding l G ad st wr _) (cwV 0 hts gV_S_225 rfl rfl rfl (by decide +kernel) ⟨Nat.le_of_ble_eq_true rfl, Nat.le_of_ble_eq_true rfl⟩) h0 hw 0 rfl rfl rfl rfl hl.1 rfl (Nat.le_of_ble_eq_true rfl) d_S_count_95 ⟨Nat.le_of_ble_eq_true rfl, Nat.le_of_ble_eq_true rfl⟩ (fun H locs hw => ?_)
              refine z_Si0 (As := [.int (f_isAlarmSounding st)]) (v := (f_asNumber (f_isAlarmSounding st))) ⟨hx, hb, hml, hown, hts⟩ (c_S_asNumber l G (wC ad G st ++ wr) _ (f_isAlarmSounding st)) (cwS 1 hts gS_S_221 rfl rfl rfl (by decide +kernel) ⟨Nat.le_of_ble_eq_true rfl, Nat.le_of_ble_eq_true rfl⟩) h0 hw rfl hl.1 rfl (Nat.le_of_ble_eq_true rfl) d_S_count_98 ⟨Nat.le_of_ble_eq_true rfl, Nat.le_of_ble_eq_true rfl⟩ (fun H locs hw => ?_)
              exact vx_ret (z_iret (wf := fun u : CS => (wC ad G u ++ wr)) (u := st) hx hb hr hlocks h0 hw rfl (by rw [f_count, if_neg c_1_0, if_neg c_1_1, if_neg c_1_2, if_neg c_1_3, if_neg c_1_4, if_pos c_1_5]) (Nat.le_of_ble_eq_true rfl) (Nat.le_of_ble_eq_true rfl) d_S_count_101)
            · skip
              rcases Classical.em (p1 = 6) with c_1_6 | c_1_6
              · refine lv_tableIn (tgt := 102) hx hb d_S_count_1 (by rw [c_1_6]; decide) (by rw [c_1_6]; decide) (by rw [c_1_6]; rfl) (by decide) ?_
                refine lv_aload_n hx hb d_S_count_102 rfl (lv_at hl 0 rfl) ?_
                refine va_get (D := G.1) (ci := 2) (v := .ref (ad 4)) (C := R_S) (T := T_S) (N := 14) hx hb hts in_S hown h0.1 hw.1 0 rfl rfl 3 (by decide) (hg (.fieldLink R_S 33 "SecureEntry" "log" "LSecureEntry$Log;") (by decide +kernel)) (fun _ h9 => h9) rfl d_S_count_103 ?_
                refine va_get (D := G.1) (ci := 1) (v := .int (st.1 15)) (C := R_O) (T := T_O) (N := 5) hx hb hts in_O hown h0.1 hw.1 4 rfl rfl 4 (by decide) (hg (.fieldLink R_S 228 "SecureEntry$Log" "alarm" "Z") (by decide +kernel)) (fun _ h9 => h9) rfl d_S_count_106 ?_
                refine z_Si0 (As := [.int (st.1 15)]) (v := (f_asNumber (st.1 15))) ⟨hx, hb, hml, hown, hts⟩ (c_S_asNumber l G (wC ad G st ++ wr) _ (st.1 15)) (cwS 1 hts gS_S_221 rfl rfl rfl (by decide +kernel) ⟨Nat.le_of_ble_eq_true rfl, Nat.le_of_ble_eq_true rfl⟩) h0 hw rfl hl.1 rfl (Nat.le_of_ble_eq_true rfl) d_S_count_109 ⟨Nat.le_of_ble_eq_true rfl, Nat.le_of_ble_eq_true rfl⟩ (fun H locs hw => ?_)
                exact vx_ret (z_iret (wf := fun u : CS => (wC ad G u ++ wr)) (u := st) hx hb hr hlocks h0 hw rfl (by rw [f_count, if_neg c_1_0, if_neg c_1_1, if_neg c_1_2, if_neg c_1_3, if_neg c_1_4, if_neg c_1_5, if_pos c_1_6]) (Nat.le_of_ble_eq_true rfl) (Nat.le_of_ble_eq_true rfl) d_S_count_112)
              · skip
                rcases Classical.em (p1 = 7) with c_1_7 | c_1_7
                · refine lv_tableIn (tgt := 113) hx hb d_S_count_1 (by rw [c_1_7]; decide) (by rw [c_1_7]; decide) (by rw [c_1_7]; rfl) (by decide) ?_
                  refine lv_aload_n hx hb d_S_count_113 rfl (lv_at hl 0 rfl) ?_
                  refine va_get (D := G.1) (ci := 2) (v := .ref (ad 4)) (C := R_S) (T := T_S) (N := 14) hx hb hts in_S hown h0.1 hw.1 0 rfl rfl 3 (by decide) (hg (.fieldLink R_S 33 "SecureEntry" "log" "LSecureEntry$Log;") (by decide +kernel)) (fun _ h9 => h9) rfl d_S_count_114 ?_
                  refine va_get (D := G.1) (ci := 1) (v := .int (st.1 14)) (C := R_O) (T := T_O) (N := 5) hx hb hts in_O hown h0.1 hw.1 4 rfl rfl 3 (by decide) (hg (.fieldLink R_S 164 "SecureEntry$Log" "size" "I") (by decide +kernel)) (fun _ h9 => h9) rfl d_S_count_117 ?_
                  exact vx_ret (z_iret (wf := fun u : CS => (wC ad G u ++ wr)) (u := st) hx hb hr hlocks h0 hw rfl (by rw [f_count, if_neg c_1_0, if_neg c_1_1, if_neg c_1_2, if_neg c_1_3, if_neg c_1_4, if_neg c_1_5, if_neg c_1_6, if_pos c_1_7]) (Nat.le_of_ble_eq_true rfl) (Nat.le_of_ble_eq_true rfl) d_S_count_120)
                · skip
                  rcases Classical.em (p1 = 8) with c_1_8 | c_1_8
                  · refine lv_tableIn (tgt := 121) hx hb d_S_count_1 (by rw [c_1_8]; decide) (by rw [c_1_8]; decide) (by rw [c_1_8]; rfl) (by decide) ?_
                    refine lv_aload_n hx hb d_S_count_121 rfl (lv_at hl 0 rfl) ?_
                    refine va_get (D := G.1) (ci := 2) (v := .int (st.1 4)) (C := R_S) (T := T_S) (N := 14) hx hb hts in_S hown h0.1 hw.1 0 rfl rfl 4 (by decide) (hg (.fieldLink R_S 101 "SecureEntry" "time" "I") (by decide +kernel)) (fun _ h9 => h9) rfl d_S_count_122 ?_
                    exact vx_ret (z_iret (wf := fun u : CS => (wC ad G u ++ wr)) (u := st) hx hb hr hlocks h0 hw rfl (by rw [f_count, if_neg c_1_0, if_neg c_1_1, if_neg c_1_2, if_neg c_1_3, if_neg c_1_4, if_neg c_1_5, if_neg c_1_6, if_neg c_1_7, if_pos c_1_8]) (Nat.le_of_ble_eq_true rfl) (Nat.le_of_ble_eq_true rfl) d_S_count_125)
                  · skip
                    rcases Classical.em (p1 = 9) with c_1_9 | c_1_9
                    · refine lv_tableIn (tgt := 126) hx hb d_S_count_1 (by rw [c_1_9]; decide) (by rw [c_1_9]; decide) (by rw [c_1_9]; rfl) (by decide) ?_
                      refine lv_aload_n hx hb d_S_count_126 rfl (lv_at hl 0 rfl) ?_
                      refine va_get (D := G.1) (ci := 2) (v := .int (st.1 8)) (C := R_S) (T := T_S) (N := 14) hx hb hts in_S hown h0.1 hw.1 0 rfl rfl 8 (by decide) (hg (.fieldLink R_S 41 "SecureEntry" "outerToken" "I") (by decide +kernel)) (fun _ h9 => h9) rfl d_S_count_127 ?_
                      exact vx_ret (z_iret (wf := fun u : CS => (wC ad G u ++ wr)) (u := st) hx hb hr hlocks h0 hw rfl (by rw [f_count, if_neg c_1_0, if_neg c_1_1, if_neg c_1_2, if_neg c_1_3, if_neg c_1_4, if_neg c_1_5, if_neg c_1_6, if_neg c_1_7, if_neg c_1_8, if_pos c_1_9]) (Nat.le_of_ble_eq_true rfl) (Nat.le_of_ble_eq_true rfl) d_S_count_130)
                    · skip
                      rcases Classical.em (p1 = 10) with c_1_10 | c_1_10
                      · refine lv_tableIn (tgt := 131) hx hb d_S_count_1 (by rw [c_1_10]; decide) (by rw [c_1_10]; decide) (by rw [c_1_10]; rfl) (by decide) ?_
                        refine lv_aload_n hx hb d_S_count_131 rfl (lv_at hl 0 rfl) ?_
                        refine va_get (D := G.1) (ci := 2) (v := .int (st.1 9)) (C := R_S) (T := T_S) (N := 14) hx hb hts in_S hown h0.1 hw.1 0 rfl rfl 9 (by decide) (hg (.fieldLink R_S 44 "SecureEntry" "innerToken" "I") (by decide +kernel)) (fun _ h9 => h9) rfl d_S_count_132 ?_
                        exact vx_ret (z_iret (wf := fun u : CS => (wC ad G u ++ wr)) (u := st) hx hb hr hlocks h0 hw rfl (by rw [f_count, if_neg c_1_0, if_neg c_1_1, if_neg c_1_2, if_neg c_1_3, if_neg c_1_4, if_neg c_1_5, if_neg c_1_6, if_neg c_1_7, if_neg c_1_8, if_neg c_1_9, if_pos c_1_10]) (Nat.le_of_ble_eq_true rfl) (Nat.le_of_ble_eq_true rfl) d_S_count_135)
                      · refine lv_tableOut (tgt := 136) hx hb d_S_count_1 (z_tout11 c_1_0 c_1_1 c_1_2 c_1_3 c_1_4 c_1_5 c_1_6 c_1_7 c_1_8 c_1_9 c_1_10) (by decide) ?_
                        exact z_throw0 (cls := "java/lang/IllegalArgumentException") (ic := 56) hx hb hl9 hown (hg (.classLink R_S 54 "java/lang/IllegalArgumentException") (by decide +kernel)) (hg (.initialized "java/lang/IllegalArgumentException") (by decide +kernel)) (hat_S56 hts h0.2.1) (by decide +kernel) h0 hw (hl.1.trans hml.symm) d_S_count_136 d_S_count_139 d_S_count_140 d_S_count_143 hex (Nat.le_of_ble_eq_true rfl) (Nat.le_of_ble_eq_true rfl) (Nat.le_of_ble_eq_true rfl) (Nat.le_of_ble_eq_true rfl) hlocks (by rw [f_count, if_neg c_1_0, if_neg c_1_1, if_neg c_1_2, if_neg c_1_3, if_neg c_1_4, if_neg c_1_5, if_neg c_1_6, if_neg c_1_7, if_neg c_1_8, if_neg c_1_9, if_neg c_1_10]) (Nat.le_of_ble_eq_true rfl) (Nat.le_of_ble_eq_true rfl)
end CON
