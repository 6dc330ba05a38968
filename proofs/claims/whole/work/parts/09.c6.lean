section CON
set_option maxHeartbeats 4000000 in
set_option maxRecDepth 100000 in
theorem c_S_logon (l : Launch) (hl9 : l.stackTraces = false) (G : gG) (ad : Nat → Nat) (st : CS) (wr : va_W) (sz : Nat) (p1 : Int32) (hI : InvC st) : vx_Met l y_S_logon w_S_logon { frames := 7, cells := 4, slots := 24, locals := 106 } (va_Pc [.ref (ad 0), .int p1] (z_pre G (wC ad G st ++ wr) sz)) (z_Qi G (wC ad G st ++ wr) sz (fun u : CS => (wC ad G u ++ wr)) (fun r u => f_logon st p1 = .inr (r, u))) (z_X G (wC ad G st ++ wr) sz (fun E => f_logon st p1 = .inl E)) 4 24 (va_A (wC ad G st ++ wr) sz) := by
  refine vx_ofW (cc := b_S_logon) (maxL := 2) (ret := (some .int)) (by decide) rfl ?_
  intro p e s m args below meth c s₁ B hml hex hv
  obtain ⟨rfl, hsz, hP, hK, hD0, ham⟩ := hv
  subst hsz
  have hx := B.exec
  have hb := B.bytes
  have hr := B.returns
  have hts : ∀ w ∈ goT, w.before _ s = true := fun w h => atoms_spec (ws := w_S_logon) B.pre w (List.mem_cons_of_mem _ h)
  have hg : ∀ w, goB w = true → w.before _ s = true := fun w h => hts w (goI h)
  have hown : s.vm.findClass R_S = some m.cls := findClass_of_methodNamed B.named
  have hlocks := B.notSynchronized
  have h0 : z_st G (wC ad G st ++ wr) s := ⟨hK, ham⟩
  have hw : z_wl G (wC ad G st ++ wr) s (wC ad G st ++ wr) s.heap [] := z_0 hP hD0
  have hl := lv_entry ([.ref (ad 0), .int p1]) (n := 2) (Nat.le_of_ble_eq_true rfl)
  rw [lg_entry_eq]
  generalize (lg_sl ([.ref (ad 0), .int p1]) ++ List.replicate (2 - (lg_sl ([.ref (ad 0), .int p1])).length) Slot.unset).toArray = ls at hl ⊢
  have hl : lv_has ls 2 [(0, .ref (ad 0)), (1, .int p1)] := hl
  refine lv_aload_n hx hb d_S_logon_0 rfl (lv_at hl 0 rfl) ?_
  refine z_VXn (As := []) (P := fun E => (f_requireUp st) = some E) (N := (f_requireUp st) = none) ⟨hx, hb, hml, hown, hts⟩ (c_S_requireUp l hl9 G ad st wr _) (cwV 0 hts gV_S_108 rfl rfl rfl (by decide +kernel) ⟨Nat.le_of_ble_eq_true rfl, Nat.le_of_ble_eq_true rfl⟩) h0 hw 0 rfl rfl rfl rfl hl.1 rfl (Nat.le_of_ble_eq_true rfl) d_S_logon_1 ⟨Nat.le_of_ble_eq_true rfl, Nat.le_of_ble_eq_true rfl⟩ (fun E ce q9 H locs hE hw hce hcv hcl => z_out hex hlocks h0 hw hce hcv hcl (by rw [f_logon, hE, exo_some]) (Nat.le_of_ble_eq_true rfl) (Nat.le_of_ble_eq_true rfl)) (fun H locs hn_1 hw => ?_)
  refine lv_iload_n hx hb d_S_logon_4 rfl (lv_at hl 1 rfl) ?_
  refine z_SXn (As := [.int p1]) (P := fun E => (f_requireToken p1) = some E) (N := (f_requireToken p1) = none) ⟨hx, hb, hml, hown, hts⟩ (c_S_requireToken l hl9 G (wC ad G st ++ wr) _ p1) (cwS 1 hts gS_S_65 rfl rfl rfl (by decide +kernel) ⟨Nat.le_of_ble_eq_true rfl, Nat.le_of_ble_eq_true rfl⟩) h0 hw rfl hl.1 rfl (Nat.le_of_ble_eq_true rfl) d_S_logon_5 ⟨Nat.le_of_ble_eq_true rfl, Nat.le_of_ble_eq_true rfl⟩ (fun E ce q9 H locs hE hw hce hcv hcl => z_out hex hlocks h0 hw hce hcv hcl (by rw [f_logon, hn_1, exo_none, hE, exo_some]) (Nat.le_of_ble_eq_true rfl) (Nat.le_of_ble_eq_true rfl)) (fun H locs hn_5 hw => ?_)
  have hp1 : vp_in p1 6 := rtk_in hn_5
  refine lv_aload_n hx hb d_S_logon_8 rfl (lv_at hl 0 rfl) ?_
  refine lv_iload_n hx hb d_S_logon_9 rfl (lv_at hl 1 rfl) ?_
  refine z_VXn (As := [.int p1]) (P := fun E => (f_requireInNoReader st p1) = some E) (N := (f_requireInNoReader st p1) = none) ⟨hx, hb, hml, hown, hts⟩ (c_S_requireInNoReader l hl9 G ad st wr _ p1) (cwV 1 hts gV_S_73 rfl rfl rfl (by decide +kernel) ⟨Nat.le_of_ble_eq_true rfl, Nat.le_of_ble_eq_true rfl⟩) h0 hw 0 rfl rfl rfl rfl hl.1 rfl (Nat.le_of_ble_eq_true rfl) d_S_logon_10 ⟨Nat.le_of_ble_eq_true rfl, Nat.le_of_ble_eq_true rfl⟩ (fun E ce q9 H locs hE hw hce hcv hcl => z_out hex hlocks h0 hw hce hcv hcl (by rw [f_logon, hn_1, exo_none, hn_5, exo_none, hE, exo_some]) (Nat.le_of_ble_eq_true rfl) (Nat.le_of_ble_eq_true rfl)) (fun H locs hn_10 hw => ?_)
  refine lv_aload_n hx hb d_S_logon_13 rfl (lv_at hl 0 rfl) ?_
  refine va_get (D := G.1) (ci := 2) (v := .int (st.1 9)) (C := R_S) (T := T_S) (N := 14) hx hb hts in_S hown h0.1 hw.1 0 rfl rfl 9 (by decide) (hg (.fieldLink R_S 44 "SecureEntry" "innerToken" "I") (by decide +kernel)) (fun _ h9 => h9) rfl d_S_logon_14 ?_
  refine z_SXn (As := [.int (st.1 9)]) (P := fun E => (f_requireEmpty (st.1 9)) = some E) (N := (f_requireEmpty (st.1 9)) = none) ⟨hx, hb, hml, hown, hts⟩ (c_S_requireEmpty l hl9 G (wC ad G st ++ wr) _ (st.1 9)) (cwS 1 hts gS_S_111 rfl rfl rfl (by decide +kernel) ⟨Nat.le_of_ble_eq_true rfl, Nat.le_of_ble_eq_true rfl⟩) h0 hw rfl hl.1 rfl (Nat.le_of_ble_eq_true rfl) d_S_logon_17 ⟨Nat.le_of_ble_eq_true rfl, Nat.le_of_ble_eq_true rfl⟩ (fun E ce q9 H locs hE hw hce hcv hcl => z_out hex hlocks h0 hw hce hcv hcl (by rw [f_logon, hn_1, exo_none, hn_5, exo_none, hn_10, exo_none, hE, exo_some]) (Nat.le_of_ble_eq_true rfl) (Nat.le_of_ble_eq_true rfl)) (fun H locs hn_17 hw => ?_)
  refine lv_aload_n hx hb d_S_logon_20 rfl (lv_at hl 0 rfl) ?_
  refine lv_iload_n hx hb d_S_logon_21 rfl (lv_at hl 1 rfl) ?_
  refine va_put (D := G.1) (ci := 2) (v := .int p1) (ty := .int) (C := R_S) (T := T_S) (N := 14) hx hb hts in_S ty_S ty_S_ok n_S hown h0.1 hw.1 hw.2.1 hw.2.2 0 rfl rfl 9 (by decide) (hg (.fieldLink R_S 44 "SecureEntry" "innerToken" "I") (by decide +kernel)) (fun _ h9 => h9) rfl (by decide +kernel) rfl rfl (Nat.le_of_ble_eq_true rfl) d_S_logon_22 (fun H locs hP hD hS => ?_)
  have hI : InvC (sS st 9 p1) := inv_tok9 hI (by exact Or.inr (by assumption))
  have hw : z_wl G (wC ad G st ++ wr) s (wC ad G (sS st 9 p1) ++ wr) H locs := ⟨hP, hD, hS⟩
  refine lv_aload_n hx hb d_S_logon_25 rfl (lv_at hl 0 rfl) ?_
  refine lv_aload_n hx hb d_S_logon_26 rfl (lv_at hl 0 rfl) ?_
  refine lv_iload_n hx hb d_S_logon_27 rfl (lv_at hl 1 rfl) ?_
  refine z_Vi0 (As := [.int p1]) (v := (f_isAuthorised (sS st 9 p1) p1)) ⟨hx, hb, hml, hown, hts⟩ (c_S_isAuthorised l G ad (sS st 9 p1) wr _ p1 (by first | assumption | exact hI.2.2.2.1 | exact hI.2.2.2.2 | (unfold vp_in; decide) | exact Or.inr (by assumption) | exact cof_mem hI | (intro a h; cases h; assumption) | exact (hI.2.1 _ (by assumption)).1) (by first | assumption | exact hI.2.2.2.1 | exact hI.2.2.2.2 | (unfold vp_in; decide) | exact Or.inr (by assumption) | exact cof_mem hI | (intro a h; cases h; assumption) | exact (hI.2.1 _ (by assumption)).1)) (cwV 1 hts gV_S_118 rfl rfl rfl (by decide +kernel) ⟨Nat.le_of_ble_eq_true rfl, Nat.le_of_ble_eq_true rfl⟩) h0 hw 0 rfl rfl rfl rfl hl.1 rfl (Nat.le_of_ble_eq_true rfl) d_S_logon_28 ⟨Nat.le_of_ble_eq_true rfl, Nat.le_of_ble_eq_true rfl⟩ (fun H locs hw => ?_)
  refine lv_if_eq (tgt := 42) hx hb d_S_logon_31 (by decide) (fun c_31 => ?_) (fun c_31 => ?_)
  · refine lv_iconst (v := 0) hx hb d_S_logon_42 (by decide) ?_
    refine va_put (D := G.1) (ci := 2) (v := .int 0) (ty := .int) (C := R_S) (T := T_S) (N := 14) hx hb hts in_S ty_S ty_S_ok n_S hown h0.1 hw.1 hw.2.1 hw.2.2 0 rfl rfl 10 (by decide) (hg (.fieldLink R_S 47 "SecureEntry" "administratorRole" "I") (by decide +kernel)) (fun _ h9 => h9) rfl (by decide +kernel) rfl rfl (Nat.le_of_ble_eq_true rfl) d_S_logon_43 (fun H locs hP hD hS => ?_)
    have hI : InvC (sS (sS st 9 p1) 10 0) := inv_sS hI (by decide)
    have hw : z_wl G (wC ad G st ++ wr) s (wC ad G (sS (sS st 9 p1) 10 0) ++ wr) H locs := ⟨hP, hD, hS⟩
    refine lv_aload_n hx hb d_S_logon_46 rfl (lv_at hl 0 rfl) ?_
    refine lv_iload_n hx hb d_S_logon_47 rfl (lv_at hl 1 rfl) ?_
    refine lv_aload_n hx hb d_S_logon_48 rfl (lv_at hl 0 rfl) ?_
    refine va_get (D := G.1) (ci := 2) (v := .int 0) (C := R_S) (T := T_S) (N := 14) hx hb hts in_S hown h0.1 hw.1 0 rfl rfl 10 (by decide) (hg (.fieldLink R_S 47 "SecureEntry" "administratorRole" "I") (by decide +kernel)) (fun _ h9 => h9) rfl d_S_logon_49 ?_
    refine lv_if_ne (tgt := 60) hx hb d_S_logon_52 (by decide) (fun c_52 => ?_) (fun c_52 => ?_)
    · exact absurd (by decide) c_52
    · refine lv_bipush (v := 16) hx hb d_S_logon_55 (by decide) ?_
      refine lv_goto (tgt := 62) hx hb d_S_logon_57 (by decide) ?_
      refine z_Vv0 (As := [.int p1, .int 16]) (ws1 := (wC ad G (f_writeAbout (sS (sS st 9 p1) 10 0) p1 16) ++ wr)) ⟨hx, hb, hml, hown, hts⟩ (c_S_writeAbout l G ad (sS (sS st 9 p1) 10 0) wr _ p1 16 (by first | assumption | exact hI.2.2.2.1 | exact hI.2.2.2.2 | (unfold vp_in; decide) | exact Or.inr (by assumption) | exact cof_mem hI | (intro a h; cases h; assumption) | exact (hI.2.1 _ (by assumption)).1) (by first | assumption | exact hI.2.2.2.1 | exact hI.2.2.2.2 | (unfold vp_in; decide) | exact Or.inr (by assumption) | exact cof_mem hI | (intro a h; cases h; assumption) | exact (hI.2.1 _ (by assumption)).1)) (cwV 2 hts gV_S_114 rfl rfl rfl (by decide +kernel) ⟨Nat.le_of_ble_eq_true rfl, Nat.le_of_ble_eq_true rfl⟩) h0 hw 0 rfl rfl rfl rfl hl.1 rfl (Nat.le_of_ble_eq_true rfl) d_S_logon_62 ⟨Nat.le_of_ble_eq_true rfl, Nat.le_of_ble_eq_true rfl⟩ (fun H locs hw => ?_)
      have hI : InvC (f_writeAbout (sS (sS st 9 p1) 10 0) p1 16) := inv_f_writeAbout hI
      refine lv_aload_n hx hb d_S_logon_65 rfl (lv_at hl 0 rfl) ?_
      refine va_get (D := G.1) (ci := 2) (v := .int ((f_writeAbout (sS (sS st 9 p1) 10 0) p1 16).1 10)) (C := R_S) (T := T_S) (N := 14) hx hb hts in_S hown h0.1 hw.1 0 rfl rfl 10 (by decide) (hg (.fieldLink R_S 47 "SecureEntry" "administratorRole" "I") (by decide +kernel)) (fun _ h9 => h9) rfl d_S_logon_66 ?_
      exact vx_ret (z_iret (wf := fun u : CS => (wC ad G u ++ wr)) (u := (f_writeAbout (sS (sS st 9 p1) 10 0) p1 16)) hx hb hr hlocks h0 hw rfl (by rw [f_logon, hn_1, exo_none, hn_5, exo_none, hn_10, exo_none, hn_17, exo_none, if_pos c_31]) (Nat.le_of_ble_eq_true rfl) (Nat.le_of_ble_eq_true rfl) d_S_logon_69)
  · refine lv_aload_n hx hb d_S_logon_34 rfl (lv_at hl 0 rfl) ?_
    refine lv_iload_n hx hb d_S_logon_35 rfl (lv_at hl 1 rfl) ?_
    refine z_Vi0 (As := [.int p1]) (v := (f_authorisedRole (sS st 9 p1) p1)) ⟨hx, hb, hml, hown, hts⟩ (c_S_authorisedRole l G ad (sS st 9 p1) wr _ p1 (by first | assumption | exact hI.2.2.2.1 | exact hI.2.2.2.2 | (unfold vp_in; decide) | exact Or.inr (by assumption) | exact cof_mem hI | (intro a h; cases h; assumption) | exact (hI.2.1 _ (by assumption)).1) (by first | assumption | exact hI.2.2.2.1 | exact hI.2.2.2.2 | (unfold vp_in; decide) | exact Or.inr (by assumption) | exact cof_mem hI | (intro a h; cases h; assumption) | exact (hI.2.1 _ (by assumption)).1)) (cwV 1 hts gV_S_148 rfl rfl rfl (by decide +kernel) ⟨Nat.le_of_ble_eq_true rfl, Nat.le_of_ble_eq_true rfl⟩) h0 hw 0 rfl rfl rfl rfl hl.1 rfl (Nat.le_of_ble_eq_true rfl) d_S_logon_36 ⟨Nat.le_of_ble_eq_true rfl, Nat.le_of_ble_eq_true rfl⟩ (fun H locs hw => ?_)
    refine lv_goto (tgt := 43) hx hb d_S_logon_39 (by decide) ?_
    refine va_put (D := G.1) (ci := 2) (v := .int (f_authorisedRole (sS st 9 p1) p1)) (ty := .int) (C := R_S) (T := T_S) (N := 14) hx hb hts in_S ty_S ty_S_ok n_S hown h0.1 hw.1 hw.2.1 hw.2.2 0 rfl rfl 10 (by decide) (hg (.fieldLink R_S 47 "SecureEntry" "administratorRole" "I") (by decide +kernel)) (fun _ h9 => h9) rfl (by decide +kernel) rfl rfl (Nat.le_of_ble_eq_true rfl) d_S_logon_43 (fun H locs hP hD hS => ?_)
    have hI : InvC (sS (sS st 9 p1) 10 (f_authorisedRole (sS st 9 p1) p1)) := inv_sS hI (by decide)
    have hw : z_wl G (wC ad G st ++ wr) s (wC ad G (sS (sS st 9 p1) 10 (f_authorisedRole (sS st 9 p1) p1)) ++ wr) H locs := ⟨hP, hD, hS⟩
    refine lv_aload_n hx hb d_S_logon_46 rfl (lv_at hl 0 rfl) ?_
    refine lv_iload_n hx hb d_S_logon_47 rfl (lv_at hl 1 rfl) ?_
    refine lv_aload_n hx hb d_S_logon_48 rfl (lv_at hl 0 rfl) ?_
    refine va_get (D := G.1) (ci := 2) (v := .int (f_authorisedRole (sS st 9 p1) p1)) (C := R_S) (T := T_S) (N := 14) hx hb hts in_S hown h0.1 hw.1 0 rfl rfl 10 (by decide) (hg (.fieldLink R_S 47 "SecureEntry" "administratorRole" "I") (by decide +kernel)) (fun _ h9 => h9) rfl d_S_logon_49 ?_
    refine lv_if_ne (tgt := 60) hx hb d_S_logon_52 (by decide) (fun c_52 => ?_) (fun c_52 => ?_)
    · refine lv_bipush (v := 10) hx hb d_S_logon_60 (by decide) ?_
      refine z_Vv0 (As := [.int p1, .int 10]) (ws1 := (wC ad G (f_writeAbout (sS (sS st 9 p1) 10 (f_authorisedRole (sS st 9 p1) p1)) p1 10) ++ wr)) ⟨hx, hb, hml, hown, hts⟩ (c_S_writeAbout l G ad (sS (sS st 9 p1) 10 (f_authorisedRole (sS st 9 p1) p1)) wr _ p1 10 (by first | assumption | exact hI.2.2.2.1 | exact hI.2.2.2.2 | (unfold vp_in; decide) | exact Or.inr (by assumption) | exact cof_mem hI | (intro a h; cases h; assumption) | exact (hI.2.1 _ (by assumption)).1) (by first | assumption | exact hI.2.2.2.1 | exact hI.2.2.2.2 | (unfold vp_in; decide) | exact Or.inr (by assumption) | exact cof_mem hI | (intro a h; cases h; assumption) | exact (hI.2.1 _ (by assumption)).1)) (cwV 2 hts gV_S_114 rfl rfl rfl (by decide +kernel) ⟨Nat.le_of_ble_eq_true rfl, Nat.le_of_ble_eq_true rfl⟩) h0 hw 0 rfl rfl rfl rfl hl.1 rfl (Nat.le_of_ble_eq_true rfl) d_S_logon_62 ⟨Nat.le_of_ble_eq_true rfl, Nat.le_of_ble_eq_true rfl⟩ (fun H locs hw => ?_)
      have hI : InvC (f_writeAbout (sS (sS st 9 p1) 10 (f_authorisedRole (sS st 9 p1) p1)) p1 10) := inv_f_writeAbout hI
      refine lv_aload_n hx hb d_S_logon_65 rfl (lv_at hl 0 rfl) ?_
      refine va_get (D := G.1) (ci := 2) (v := .int ((f_writeAbout (sS (sS st 9 p1) 10 (f_authorisedRole (sS st 9 p1) p1)) p1 10).1 10)) (C := R_S) (T := T_S) (N := 14) hx hb hts in_S hown h0.1 hw.1 0 rfl rfl 10 (by decide) (hg (.fieldLink R_S 47 "SecureEntry" "administratorRole" "I") (by decide +kernel)) (fun _ h9 => h9) rfl d_S_logon_66 ?_
      exact vx_ret (z_iret (wf := fun u : CS => (wC ad G u ++ wr)) (u := (f_writeAbout (sS (sS st 9 p1) 10 (f_authorisedRole (sS st 9 p1) p1)) p1 10)) hx hb hr hlocks h0 hw rfl (by rw [f_logon, hn_1, exo_none, hn_5, exo_none, hn_10, exo_none, hn_17, exo_none, if_neg c_31, if_neg c_52]) (Nat.le_of_ble_eq_true rfl) (Nat.le_of_ble_eq_true rfl) d_S_logon_69)
    · refine lv_bipush (v := 16) hx hb d_S_logon_55 (by decide) ?_
      refine lv_goto (tgt := 62) hx hb d_S_logon_57 (by decide) ?_
      refine z_Vv0 (As := [.int p1, .int 16]) (ws1 := (wC ad G (f_writeAbout (sS (sS st 9 p1) 10 (f_authorisedRole (sS st 9 p1) p1)) p1 16) ++ wr)) ⟨hx, hb, hml, hown, hts⟩ (c_S_writeAbout l G ad (sS (sS st 9 p1) 10 (f_authorisedRole (sS st 9 p1) p1)) wr _ p1 16 (by first | assumption | exact hI.2.2.2.1 | exact hI.2.2.2.2 | (unfold vp_in; decide) | exact Or.inr (by assumption) | exact cof_mem hI | (intro a h; cases h; assumption) | exact (hI.2.1 _ (by assumption)).1) (by first | assumption | exact hI.2.2.2.1 | exact hI.2.2.2.2 | (unfold vp_in; decide) | exact Or.inr (by assumption) | exact cof_mem hI | (intro a h; cases h; assumption) | exact (hI.2.1 _ (by assumption)).1)) (cwV 2 hts gV_S_114 rfl rfl rfl (by decide +kernel) ⟨Nat.le_of_ble_eq_true rfl, Nat.le_of_ble_eq_true rfl⟩) h0 hw 0 rfl rfl rfl rfl hl.1 rfl (Nat.le_of_ble_eq_true rfl) d_S_logon_62 ⟨Nat.le_of_ble_eq_true rfl, Nat.le_of_ble_eq_true rfl⟩ (fun H locs hw => ?_)
      have hI : InvC (f_writeAbout (sS (sS st 9 p1) 10 (f_authorisedRole (sS st 9 p1) p1)) p1 16) := inv_f_writeAbout hI
      refine lv_aload_n hx hb d_S_logon_65 rfl (lv_at hl 0 rfl) ?_
      refine va_get (D := G.1) (ci := 2) (v := .int ((f_writeAbout (sS (sS st 9 p1) 10 (f_authorisedRole (sS st 9 p1) p1)) p1 16).1 10)) (C := R_S) (T := T_S) (N := 14) hx hb hts in_S hown h0.1 hw.1 0 rfl rfl 10 (by decide) (hg (.fieldLink R_S 47 "SecureEntry" "administratorRole" "I") (by decide +kernel)) (fun _ h9 => h9) rfl d_S_logon_66 ?_
      exact vx_ret (z_iret (wf := fun u : CS => (wC ad G u ++ wr)) (u := (f_writeAbout (sS (sS st 9 p1) 10 (f_authorisedRole (sS st 9 p1) p1)) p1 16)) hx hb hr hlocks h0 hw rfl (by rw [f_logon, hn_1, exo_none, hn_5, exo_none, hn_10, exo_none, hn_17, exo_none, if_neg c_31, if_pos c_52]) (Nat.le_of_ble_eq_true rfl) (Nat.le_of_ble_eq_true rfl) d_S_logon_69)
set_option maxHeartbeats 4000000 in
set_option maxRecDepth 100000 in
theorem c_S_logoff (l : Launch) (hl9 : l.stackTraces = false) (G : gG) (ad : Nat → Nat) (st : CS) (wr : va_W) (sz : Nat)  (hI : InvC st) : vx_Met l y_S_logoff w_S_logoff { frames := 7, cells := 2, slots := 12, locals := 126 } (va_Pc [.ref (ad 0)] (z_pre G (wC ad G st ++ wr) sz)) (z_Qi G (wC ad G st ++ wr) sz (fun u : CS => (wC ad G u ++ wr)) (fun r u => f_logoff st = .inr (r, u))) (z_X G (wC ad G st ++ wr) sz (fun E => f_logoff st = .inl E)) 2 12 (va_A (wC ad G st ++ wr) sz) := by
  refine vx_ofW (cc := b_S_logoff) (maxL := 2) (ret := (some .int)) (by decide) rfl ?_
  intro p e s m args below meth c s₁ B hml hex hv
  obtain ⟨rfl, hsz, hP, hK, hD0, ham⟩ := hv
  subst hsz
  have hx := B.exec
  have hb := B.bytes
  have hr := B.returns
  have hts : ∀ w ∈ goT, w.before _ s = true := fun w h => atoms_spec (ws := w_S_logoff) B.pre w (List.mem_cons_of_mem _ h)
  have hg : ∀ w, goB w = true → w.before _ s = true := fun w h => hts w (goI h)
  have hown : s.vm.findClass R_S = some m.cls := findClass_of_methodNamed B.named
  have hlocks := B.notSynchronized
  have h0 : z_st G (wC ad G st ++ wr) s := ⟨hK, ham⟩
  have hw : z_wl G (wC ad G st ++ wr) s (wC ad G st ++ wr) s.heap [] := z_0 hP hD0
  have hl := lv_entry ([.ref (ad 0)]) (n := 2) (Nat.le_of_ble_eq_true rfl)
  rw [lg_entry_eq]
  generalize (lg_sl ([.ref (ad 0)]) ++ List.replicate (2 - (lg_sl ([.ref (ad 0)])).length) Slot.unset).toArray = ls at hl ⊢
  have hl : lv_has ls 2 [(0, .ref (ad 0))] := hl
  refine lv_aload_n hx hb d_S_logoff_0 rfl (lv_at hl 0 rfl) ?_
  refine z_VXn (As := []) (P := fun E => (f_requireUp st) = some E) (N := (f_requireUp st) = none) ⟨hx, hb, hml, hown, hts⟩ (c_S_requireUp l hl9 G ad st wr _) (cwV 0 hts gV_S_108 rfl rfl rfl (by decide +kernel) ⟨Nat.le_of_ble_eq_true rfl, Nat.le_of_ble_eq_true rfl⟩) h0 hw 0 rfl rfl rfl rfl hl.1 rfl (Nat.le_of_ble_eq_true rfl) d_S_logoff_1 ⟨Nat.le_of_ble_eq_true rfl, Nat.le_of_ble_eq_true rfl⟩ (fun E ce q9 H locs hE hw hce hcv hcl => z_out hex hlocks h0 hw hce hcv hcl (by rw [f_logoff, hE, exo_some]) (Nat.le_of_ble_eq_true rfl) (Nat.le_of_ble_eq_true rfl)) (fun H locs hn_1 hw => ?_)
  refine lv_aload_n hx hb d_S_logoff_4 rfl (lv_at hl 0 rfl) ?_
  refine va_get (D := G.1) (ci := 2) (v := .int (st.1 9)) (C := R_S) (T := T_S) (N := 14) hx hb hts in_S hown h0.1 hw.1 0 rfl rfl 9 (by decide) (hg (.fieldLink R_S 44 "SecureEntry" "innerToken" "I") (by decide +kernel)) (fun _ h9 => h9) rfl d_S_logoff_5 ?_
  refine z_SXn (As := [.int (st.1 9)]) (P := fun E => (f_requireFilled (st.1 9)) = some E) (N := (f_requireFilled (st.1 9)) = none) ⟨hx, hb, hml, hown, hts⟩ (c_S_requireFilled l hl9 G (wC ad G st ++ wr) _ (st.1 9)) (cwS 1 hts gS_S_142 rfl rfl rfl (by decide +kernel) ⟨Nat.le_of_ble_eq_true rfl, Nat.le_of_ble_eq_true rfl⟩) h0 hw rfl hl.1 rfl (Nat.le_of_ble_eq_true rfl) d_S_logoff_8 ⟨Nat.le_of_ble_eq_true rfl, Nat.le_of_ble_eq_true rfl⟩ (fun E ce q9 H locs hE hw hce hcv hcl => z_out hex hlocks h0 hw hce hcv hcl (by rw [f_logoff, hn_1, exo_none, hE, exo_some]) (Nat.le_of_ble_eq_true rfl) (Nat.le_of_ble_eq_true rfl)) (fun H locs hn_8 hw => ?_)
  refine lv_aload_n hx hb d_S_logoff_11 rfl (lv_at hl 0 rfl) ?_
  refine va_get (D := G.1) (ci := 2) (v := .int (st.1 9)) (C := R_S) (T := T_S) (N := 14) hx hb hts in_S hown h0.1 hw.1 0 rfl rfl 9 (by decide) (hg (.fieldLink R_S 44 "SecureEntry" "innerToken" "I") (by decide +kernel)) (fun _ h9 => h9) rfl d_S_logoff_12 ?_
  refine lv_istore_n (lv' := [(1, .int (st.1 9)), (0, .ref (ad 0))]) hx hb d_S_logoff_15 rfl hl (by decide) rfl (fun ls hl => ?_)
  refine lv_aload_n hx hb d_S_logoff_16 rfl (lv_at hl 1 rfl) ?_
  refine va_get (D := G.1) (ci := 2) (v := .int (st.1 10)) (C := R_S) (T := T_S) (N := 14) hx hb hts in_S hown h0.1 hw.1 0 rfl rfl 10 (by decide) (hg (.fieldLink R_S 47 "SecureEntry" "administratorRole" "I") (by decide +kernel)) (fun _ h9 => h9) rfl d_S_logoff_17 ?_
  refine lv_if_eq (tgt := 27) hx hb d_S_logoff_20 (by decide) (fun c_20 => ?_) (fun c_20 => ?_)
  · refine lv_aload_n hx hb d_S_logoff_27 rfl (lv_at hl 1 rfl) ?_
    refine lv_iconst (v := (-1)) hx hb d_S_logoff_28 (by decide) ?_
    refine va_put (D := G.1) (ci := 2) (v := .int (-1)) (ty := .int) (C := R_S) (T := T_S) (N := 14) hx hb hts in_S ty_S ty_S_ok n_S hown h0.1 hw.1 hw.2.1 hw.2.2 0 rfl rfl 9 (by decide) (hg (.fieldLink R_S 44 "SecureEntry" "innerToken" "I") (by decide +kernel)) (fun _ h9 => h9) rfl (by decide +kernel) rfl rfl (Nat.le_of_ble_eq_true rfl) d_S_logoff_29 (fun H locs hP hD hS => ?_)
    have hI : InvC (sS st 9 (-1)) := inv_tok9 hI (by exact Or.inl rfl)
    have hw : z_wl G (wC ad G st ++ wr) s (wC ad G (sS st 9 (-1)) ++ wr) H locs := ⟨hP, hD, hS⟩
    refine lv_iload_n hx hb d_S_logoff_32 rfl (lv_at hl 0 rfl) ?_
    exact vx_ret (z_iret (wf := fun u : CS => (wC ad G u ++ wr)) (u := (sS st 9 (-1))) hx hb hr hlocks h0 hw rfl (by rw [f_logoff, hn_1, exo_none, hn_8, exo_none, if_pos c_20]) (Nat.le_of_ble_eq_true rfl) (Nat.le_of_ble_eq_true rfl) d_S_logoff_33)
  · refine lv_aload_n hx hb d_S_logoff_23 rfl (lv_at hl 1 rfl) ?_
    refine z_Vv0 (As := []) (ws1 := (wC ad G (f_dismissAdministrator st) ++ wr)) ⟨hx, hb, hml, hown, hts⟩ (c_S_dismissAdministrator l G ad st wr _  (by first | assumption | exact hI.2.2.2.1 | exact hI.2.2.2.2 | (unfold vp_in; decide) | exact Or.inr (by assumption) | exact cof_mem hI | (intro a h; cases h; assumption) | exact (hI.2.1 _ (by assumption)).1)) (cwV 0 hts gV_S_152 rfl rfl rfl (by decide +kernel) ⟨Nat.le_of_ble_eq_true rfl, Nat.le_of_ble_eq_true rfl⟩) h0 hw 0 rfl rfl rfl rfl hl.1 rfl (Nat.le_of_ble_eq_true rfl) d_S_logoff_24 ⟨Nat.le_of_ble_eq_true rfl, Nat.le_of_ble_eq_true rfl⟩ (fun H locs hw => ?_)
    have hI : InvC (f_dismissAdministrator st) := inv_f_dismissAdministrator hI
    refine lv_aload_n hx hb d_S_logoff_27 rfl (lv_at hl 1 rfl) ?_
    refine lv_iconst (v := (-1)) hx hb d_S_logoff_28 (by decide) ?_
    refine va_put (D := G.1) (ci := 2) (v := .int (-1)) (ty := .int) (C := R_S) (T := T_S) (N := 14) hx hb hts in_S ty_S ty_S_ok n_S hown h0.1 hw.1 hw.2.1 hw.2.2 0 rfl rfl 9 (by decide) (hg (.fieldLink R_S 44 "SecureEntry" "innerToken" "I") (by decide +kernel)) (fun _ h9 => h9) rfl (by decide +kernel) rfl rfl (Nat.le_of_ble_eq_true rfl) d_S_logoff_29 (fun H locs hP hD hS => ?_)
    have hI : InvC (sS (f_dismissAdministrator st) 9 (-1)) := inv_tok9 hI (by exact Or.inl rfl)
    have hw : z_wl G (wC ad G st ++ wr) s (wC ad G (sS (f_dismissAdministrator st) 9 (-1)) ++ wr) H locs := ⟨hP, hD, hS⟩
    refine lv_iload_n hx hb d_S_logoff_32 rfl (lv_at hl 0 rfl) ?_
    exact vx_ret (z_iret (wf := fun u : CS => (wC ad G u ++ wr)) (u := (sS (f_dismissAdministrator st) 9 (-1))) hx hb hr hlocks h0 hw rfl (by rw [f_logoff, hn_1, exo_none, hn_8, exo_none, if_neg c_20]) (Nat.le_of_ble_eq_true rfl) (Nat.le_of_ble_eq_true rfl) d_S_logoff_33)
set_option maxHeartbeats 4000000 in
set_option maxRecDepth 100000 in
theorem c_S_override (l : Launch) (hl9 : l.stackTraces = false) (G : gG) (ad : Nat → Nat) (st : CS) (wr : va_W) (sz : Nat)  (hI : InvC st) : vx_Met l y_S_override w_S_override { frames := 7, cells := 3, slots := 18, locals := 106 } (va_Pc [.ref (ad 0)] (z_pre G (wC ad G st ++ wr) sz)) (z_Qi G (wC ad G st ++ wr) sz (fun u : CS => (wC ad G u ++ wr)) (fun r u => f_override st = .inr (r, u))) (z_X G (wC ad G st ++ wr) sz (fun E => f_override st = .inl E)) 3 18 (va_A (wC ad G st ++ wr) sz) := by
  refine vx_ofW (cc := b_S_override) (maxL := 1) (ret := (some .int)) (by decide) rfl ?_
  intro p e s m args below meth c s₁ B hml hex hv
  obtain ⟨rfl, hsz, hP, hK, hD0, ham⟩ := hv
  subst hsz
  have hx := B.exec
  have hb := B.bytes
  have hr := B.returns
  have hts : ∀ w ∈ goT, w.before _ s = true := fun w h => atoms_spec (ws := w_S_override) B.pre w (List.mem_cons_of_mem _ h)
  have hg : ∀ w, goB w = true → w.before _ s = true := fun w h => hts w (goI h)
  have hown : s.vm.findClass R_S = some m.cls := findClass_of_methodNamed B.named
  have hlocks := B.notSynchronized
  have h0 : z_st G (wC ad G st ++ wr) s := ⟨hK, ham⟩
  have hw : z_wl G (wC ad G st ++ wr) s (wC ad G st ++ wr) s.heap [] := z_0 hP hD0
  have hl := lv_entry ([.ref (ad 0)]) (n := 1) (Nat.le_of_ble_eq_true rfl)
  rw [lg_entry_eq]
  generalize (lg_sl ([.ref (ad 0)]) ++ List.replicate (1 - (lg_sl ([.ref (ad 0)])).length) Slot.unset).toArray = ls at hl ⊢
  have hl : lv_has ls 1 [(0, .ref (ad 0))] := hl
  refine lv_aload_n hx hb d_S_override_0 rfl (lv_at hl 0 rfl) ?_
  refine z_VXn (As := []) (P := fun E => (f_requireUp st) = some E) (N := (f_requireUp st) = none) ⟨hx, hb, hml, hown, hts⟩ (c_S_requireUp l hl9 G ad st wr _) (cwV 0 hts gV_S_108 rfl rfl rfl (by decide +kernel) ⟨Nat.le_of_ble_eq_true rfl, Nat.le_of_ble_eq_true rfl⟩) h0 hw 0 rfl rfl rfl rfl hl.1 rfl (Nat.le_of_ble_eq_true rfl) d_S_override_1 ⟨Nat.le_of_ble_eq_true rfl, Nat.le_of_ble_eq_true rfl⟩ (fun E ce q9 H locs hE hw hce hcv hcl => z_out hex hlocks h0 hw hce hcv hcl (by rw [f_override, hE, exo_some]) (Nat.le_of_ble_eq_true rfl) (Nat.le_of_ble_eq_true rfl)) (fun H locs hn_1 hw => ?_)
  refine lv_aload_n hx hb d_S_override_4 rfl (lv_at hl 0 rfl) ?_
  refine z_VXn (As := []) (P := fun E => (f_requireAdministrator st) = some E) (N := (f_requireAdministrator st) = none) ⟨hx, hb, hml, hown, hts⟩ (c_S_requireAdministrator l hl9 G ad st wr _) (cwV 0 hts gV_S_155 rfl rfl rfl (by decide +kernel) ⟨Nat.le_of_ble_eq_true rfl, Nat.le_of_ble_eq_true rfl⟩) h0 hw 0 rfl rfl rfl rfl hl.1 rfl (Nat.le_of_ble_eq_true rfl) d_S_override_5 ⟨Nat.le_of_ble_eq_true rfl, Nat.le_of_ble_eq_true rfl⟩ (fun E ce q9 H locs hE hw hce hcv hcl => z_out hex hlocks h0 hw hce hcv hcl (by rw [f_override, hn_1, exo_none, hE, exo_some]) (Nat.le_of_ble_eq_true rfl) (Nat.le_of_ble_eq_true rfl)) (fun H locs hn_5 hw => ?_)
  refine lv_aload_n hx hb d_S_override_8 rfl (lv_at hl 0 rfl) ?_
  refine lv_iconst (v := 1) hx hb d_S_override_9 (by decide) ?_
  refine z_VXn (As := [.int 1]) (P := fun E => (f_requireRole st 1) = some E) (N := (f_requireRole st 1) = none) ⟨hx, hb, hml, hown, hts⟩ (c_S_requireRole l hl9 G ad st wr _ 1) (cwV 1 hts gV_S_158 rfl rfl rfl (by decide +kernel) ⟨Nat.le_of_ble_eq_true rfl, Nat.le_of_ble_eq_true rfl⟩) h0 hw 0 rfl rfl rfl rfl hl.1 rfl (Nat.le_of_ble_eq_true rfl) d_S_override_10 ⟨Nat.le_of_ble_eq_true rfl, Nat.le_of_ble_eq_true rfl⟩ (fun E ce q9 H locs hE hw hce hcv hcl => z_out hex hlocks h0 hw hce hcv hcl (by rw [f_override, hn_1, exo_none, hn_5, exo_none, hE, exo_some]) (Nat.le_of_ble_eq_true rfl) (Nat.le_of_ble_eq_true rfl)) (fun H locs hn_10 hw => ?_)
  refine lv_aload_n hx hb d_S_override_13 rfl (lv_at hl 0 rfl) ?_
  refine z_Vv0 (As := []) (ws1 := (wC ad G (f_unlock st) ++ wr)) ⟨hx, hb, hml, hown, hts⟩ (c_S_unlock l G ad st wr _) (cwV 0 hts gV_S_145 rfl rfl rfl (by decide +kernel) ⟨Nat.le_of_ble_eq_true rfl, Nat.le_of_ble_eq_true rfl⟩) h0 hw 0 rfl rfl rfl rfl hl.1 rfl (Nat.le_of_ble_eq_true rfl) d_S_override_14 ⟨Nat.le_of_ble_eq_true rfl, Nat.le_of_ble_eq_true rfl⟩ (fun H locs hw => ?_)
  have hI : InvC (f_unlock st) := inv_f_unlock hI
  refine lv_aload_n hx hb d_S_override_17 rfl (lv_at hl 0 rfl) ?_
  refine lv_aload_n hx hb d_S_override_18 rfl (lv_at hl 0 rfl) ?_
  refine va_get (D := G.1) (ci := 2) (v := .int ((f_unlock st).1 9)) (C := R_S) (T := T_S) (N := 14) hx hb hts in_S hown h0.1 hw.1 0 rfl rfl 9 (by decide) (hg (.fieldLink R_S 44 "SecureEntry" "innerToken" "I") (by decide +kernel)) (fun _ h9 => h9) rfl d_S_override_19 ?_
  refine lv_bipush (v := 12) hx hb d_S_override_22 (by decide) ?_
  refine z_Vv0 (As := [.int ((f_unlock st).1 9), .int 12]) (ws1 := (wC ad G (f_writeAbout (f_unlock st) ((f_unlock st).1 9) 12) ++ wr)) ⟨hx, hb, hml, hown, hts⟩ (c_S_writeAbout l G ad (f_unlock st) wr _ ((f_unlock st).1 9) 12 (by first | assumption | exact hI.2.2.2.1 | exact hI.2.2.2.2 | (unfold vp_in; decide) | exact Or.inr (by assumption) | exact cof_mem hI | (intro a h; cases h; assumption) | exact (hI.2.1 _ (by assumption)).1) (by first | assumption | exact hI.2.2.2.1 | exact hI.2.2.2.2 | (unfold vp_in; decide) | exact Or.inr (by assumption) | exact cof_mem hI | (intro a h; cases h; assumption) | exact (hI.2.1 _ (by assumption)).1)) (cwV 2 hts gV_S_114 rfl rfl rfl (by decide +kernel) ⟨Nat.le_of_ble_eq_true rfl, Nat.le_of_ble_eq_true rfl⟩) h0 hw 0 rfl rfl rfl rfl hl.1 rfl (Nat.le_of_ble_eq_true rfl) d_S_override_24 ⟨Nat.le_of_ble_eq_true rfl, Nat.le_of_ble_eq_true rfl⟩ (fun H locs hw => ?_)
  have hI : InvC (f_writeAbout (f_unlock st) ((f_unlock st).1 9) 12) := inv_f_writeAbout hI
  refine lv_aload_n hx hb d_S_override_27 rfl (lv_at hl 0 rfl) ?_
  refine va_get (D := G.1) (ci := 2) (v := .int ((f_writeAbout (f_unlock st) ((f_unlock st).1 9) 12).1 11)) (C := R_S) (T := T_S) (N := 14) hx hb hts in_S hown h0.1 hw.1 0 rfl rfl 11 (by decide) (hg (.fieldLink R_S 161 "SecureEntry" "unlockedUntil" "I") (by decide +kernel)) (fun _ h9 => h9) rfl d_S_override_28 ?_
  exact vx_ret (z_iret (wf := fun u : CS => (wC ad G u ++ wr)) (u := (f_writeAbout (f_unlock st) ((f_unlock st).1 9) 12)) hx hb hr hlocks h0 hw rfl (by rw [f_override, hn_1, exo_none, hn_5, exo_none, hn_10, exo_none]) (Nat.le_of_ble_eq_true rfl) (Nat.le_of_ble_eq_true rfl) d_S_override_31)
set_option maxHeartbeats 4000000 in
set_option maxRecDepth 100000 in
theorem c_S_archive (l : Launch) (hl9 : l.stackTraces = false) (G : gG) (ad : Nat → Nat) (st : CS) (wr : va_W) (sz : Nat)  (hI : InvC st) : vx_Met l y_S_archive w_S_archive { frames := 7, cells := 3, slots := 18, locals := 106 } (va_Pc [.ref (ad 0)] (z_pre G (wC ad G st ++ wr) sz)) (z_Qi G (wC ad G st ++ wr) sz (fun u : CS => (wC ad G u ++ wr)) (fun r u => f_archive st = .inr (r, u))) (z_X G (wC ad G st ++ wr) sz (fun E => f_archive st = .inl E)) 3 18 (va_A (wC ad G st ++ wr) sz) := by
  refine vx_ofW (cc := b_S_archive) (maxL := 2) (ret := (some .int)) (by decide) rfl ?_
  intro p e s m args below meth c s₁ B hml hex hv
  obtain ⟨rfl, hsz, hP, hK, hD0, ham⟩ := hv
  subst hsz
  have hx := B.exec
  have hb := B.bytes
  have hr := B.returns
  have hts : ∀ w ∈ goT, w.before _ s = true := fun w h => atoms_spec (ws := w_S_archive) B.pre w (List.mem_cons_of_mem _ h)
  have hg : ∀ w, goB w = true → w.before _ s = true := fun w h => hts w (goI h)
  have hown : s.vm.findClass R_S = some m.cls := findClass_of_methodNamed B.named
  have hlocks := B.notSynchronized
  have h0 : z_st G (wC ad G st ++ wr) s := ⟨hK, ham⟩
  have hw : z_wl G (wC ad G st ++ wr) s (wC ad G st ++ wr) s.heap [] := z_0 hP hD0
  have hl := lv_entry ([.ref (ad 0)]) (n := 2) (Nat.le_of_ble_eq_true rfl)
  rw [lg_entry_eq]
  generalize (lg_sl ([.ref (ad 0)]) ++ List.replicate (2 - (lg_sl ([.ref (ad 0)])).length) Slot.unset).toArray = ls at hl ⊢
  have hl : lv_has ls 2 [(0, .ref (ad 0))] := hl
  refine lv_aload_n hx hb d_S_archive_0 rfl (lv_at hl 0 rfl) ?_
  refine z_VXn (As := []) (P := fun E => (f_requireUp st) = some E) (N := (f_requireUp st) = none) ⟨hx, hb, hml, hown, hts⟩ (c_S_requireUp l hl9 G ad st wr _) (cwV 0 hts gV_S_108 rfl rfl rfl (by decide +kernel) ⟨Nat.le_of_ble_eq_true rfl, Nat.le_of_ble_eq_true rfl⟩) h0 hw 0 rfl rfl rfl rfl hl.1 rfl (Nat.le_of_ble_eq_true rfl) d_S_archive_1 ⟨Nat.le_of_ble_eq_true rfl, Nat.le_of_ble_eq_true rfl⟩ (fun E ce q9 H locs hE hw hce hcv hcl => z_out hex hlocks h0 hw hce hcv hcl (by rw [f_archive, hE, exo_some]) (Nat.le_of_ble_eq_true rfl) (Nat.le_of_ble_eq_true rfl)) (fun H locs hn_1 hw => ?_)
  refine lv_aload_n hx hb d_S_archive_4 rfl (lv_at hl 0 rfl) ?_
  refine z_VXn (As := []) (P := fun E => (f_requireAdministrator st) = some E) (N := (f_requireAdministrator st) = none) ⟨hx, hb, hml, hown, hts⟩ (c_S_requireAdministrator l hl9 G ad st wr _) (cwV 0 hts gV_S_155 rfl rfl rfl (by decide +kernel) ⟨Nat.le_of_ble_eq_true rfl, Nat.le_of_ble_eq_true rfl⟩) h0 hw 0 rfl rfl rfl rfl hl.1 rfl (Nat.le_of_ble_eq_true rfl) d_S_archive_5 ⟨Nat.le_of_ble_eq_true rfl, Nat.le_of_ble_eq_true rfl⟩ (fun E ce q9 H locs hE hw hce hcv hcl => z_out hex hlocks h0 hw hce hcv hcl (by rw [f_archive, hn_1, exo_none, hE, exo_some]) (Nat.le_of_ble_eq_true rfl) (Nat.le_of_ble_eq_true rfl)) (fun H locs hn_5 hw => ?_)
  refine lv_aload_n hx hb d_S_archive_8 rfl (lv_at hl 0 rfl) ?_
  refine lv_iconst (v := 2) hx hb d_S_archive_9 (by decide) ?_
  refine z_VXn (As := [.int 2]) (P := fun E => (f_requireRole st 2) = some E) (N := (f_requireRole st 2) = none) ⟨hx, hb, hml, hown, hts⟩ (c_S_requireRole l hl9 G ad st wr _ 2) (cwV 1 hts gV_S_158 rfl rfl rfl (by decide +kernel) ⟨Nat.le_of_ble_eq_true rfl, Nat.le_of_ble_eq_true rfl⟩) h0 hw 0 rfl rfl rfl rfl hl.1 rfl (Nat.le_of_ble_eq_true rfl) d_S_archive_10 ⟨Nat.le_of_ble_eq_true rfl, Nat.le_of_ble_eq_true rfl⟩ (fun E ce q9 H locs hE hw hce hcv hcl => z_out hex hlocks h0 hw hce hcv hcl (by rw [f_archive, hn_1, exo_none, hn_5, exo_none, hE, exo_some]) (Nat.le_of_ble_eq_true rfl) (Nat.le_of_ble_eq_true rfl)) (fun H locs hn_10 hw => ?_)
  refine lv_aload_n hx hb d_S_archive_13 rfl (lv_at hl 0 rfl) ?_
  refine va_get (D := G.1) (ci := 2) (v := .ref (ad 4)) (C := R_S) (T := T_S) (N := 14) hx hb hts in_S hown h0.1 hw.1 0 rfl rfl 3 (by decide) (hg (.fieldLink R_S 33 "SecureEntry" "log" "LSecureEntry$Log;") (by decide +kernel)) (fun _ h9 => h9) rfl d_S_archive_14 ?_
  refine va_get (D := G.1) (ci := 1) (v := .int (st.1 14)) (C := R_O) (T := T_O) (N := 5) hx hb hts in_O hown h0.1 hw.1 4 rfl rfl 3 (by decide) (hg (.fieldLink R_S 164 "SecureEntry$Log" "size" "I") (by decide +kernel)) (fun _ h9 => h9) rfl d_S_archive_17 ?_
  refine lv_istore_n (lv' := [(1, .int (st.1 14)), (0, .ref (ad 0))]) hx hb d_S_archive_20 rfl hl (by decide) rfl (fun ls hl => ?_)
  refine lv_aload_n hx hb d_S_archive_21 rfl (lv_at hl 1 rfl) ?_
  refine va_get (D := G.1) (ci := 2) (v := .ref (ad 4)) (C := R_S) (T := T_S) (N := 14) hx hb hts in_S hown h0.1 hw.1 0 rfl rfl 3 (by decide) (hg (.fieldLink R_S 33 "SecureEntry" "log" "LSecureEntry$Log;") (by decide +kernel)) (fun _ h9 => h9) rfl d_S_archive_22 ?_
  refine z_Vv0 (As := []) (ws1 := (wC ad G (f_clear st) ++ wr)) ⟨hx, hb, hml, hown, hts⟩ (c_O_clear l G ad st wr _) (cwV 0 hts gV_S_167 rfl rfl rfl (by decide +kernel) ⟨Nat.le_of_ble_eq_true rfl, Nat.le_of_ble_eq_true rfl⟩) h0 hw 4 rfl rfl rfl rfl hl.1 rfl (Nat.le_of_ble_eq_true rfl) d_S_archive_25 ⟨Nat.le_of_ble_eq_true rfl, Nat.le_of_ble_eq_true rfl⟩ (fun H locs hw => ?_)
  have hI : InvC (f_clear st) := inv_f_clear hI
  refine lv_aload_n hx hb d_S_archive_28 rfl (lv_at hl 1 rfl) ?_
  refine lv_aload_n hx hb d_S_archive_29 rfl (lv_at hl 1 rfl) ?_
  refine va_get (D := G.1) (ci := 2) (v := .int ((f_clear st).1 9)) (C := R_S) (T := T_S) (N := 14) hx hb hts in_S hown h0.1 hw.1 0 rfl rfl 9 (by decide) (hg (.fieldLink R_S 44 "SecureEntry" "innerToken" "I") (by decide +kernel)) (fun _ h9 => h9) rfl d_S_archive_30 ?_
  refine lv_bipush (v := 13) hx hb d_S_archive_33 (by decide) ?_
  refine z_Vv0 (As := [.int ((f_clear st).1 9), .int 13]) (ws1 := (wC ad G (f_writeAbout (f_clear st) ((f_clear st).1 9) 13) ++ wr)) ⟨hx, hb, hml, hown, hts⟩ (c_S_writeAbout l G ad (f_clear st) wr _ ((f_clear st).1 9) 13 (by first | assumption | exact hI.2.2.2.1 | exact hI.2.2.2.2 | (unfold vp_in; decide) | exact Or.inr (by assumption) | exact cof_mem hI | (intro a h; cases h; assumption) | exact (hI.2.1 _ (by assumption)).1) (by first | assumption | exact hI.2.2.2.1 | exact hI.2.2.2.2 | (unfold vp_in; decide) | exact Or.inr (by assumption) | exact cof_mem hI | (intro a h; cases h; assumption) | exact (hI.2.1 _ (by assumption)).1)) (cwV 2 hts gV_S_114 rfl rfl rfl (by decide +kernel) ⟨Nat.le_of_ble_eq_true rfl, Nat.le_of_ble_eq_true rfl⟩) h0 hw 0 rfl rfl rfl rfl hl.1 rfl (Nat.le_of_ble_eq_true rfl) d_S_archive_35 ⟨Nat.le_of_ble_eq_true rfl, Nat.le_of_ble_eq_true rfl⟩ (fun H locs hw => ?_)
  have hI : InvC (f_writeAbout (f_clear st) ((f_clear st).1 9) 13) := inv_f_writeAbout hI
  refine lv_iload_n hx hb d_S_archive_38 rfl (lv_at hl 0 rfl) ?_
  exact vx_ret (z_iret (wf := fun u : CS => (wC ad G u ++ wr)) (u := (f_writeAbout (f_clear st) ((f_clear st).1 9) 13)) hx hb hr hlocks h0 hw rfl (by rw [f_archive, hn_1, exo_none, hn_5, exo_none, hn_10, exo_none]) (Nat.le_of_ble_eq_true rfl) (Nat.le_of_ble_eq_true rfl) d_S_archive_39)
end CON
