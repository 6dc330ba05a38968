section MC
set_option maxHeartbeats 4000000 in
set_option maxRecDepth 100000 in
theorem c_M_logoff (l : Launch) (G : gG) (bd : Nat → Nat) (st : MS) (wr : va_W) (sz : Nat)  (hI : InvM st) : Met l y_M_logoff w_M_logoff { frames := 2, cells := 0, slots := 0, locals := 45 } (va_Pc [.ref (bd 0)] (z_pre G (wM bd G st ++ wr) sz)) (z_Qi0 G (wM bd G st ++ wr) sz (wM bd G (m_logoff st).2 ++ wr) (m_logoff st).1) 0 0 (va_A (wM bd G st ++ wr) sz) := by
  refine Met.ofW (cc := b_M_logoff) (maxL := 2) (ret := (some .int)) (by decide) rfl ?_
  intro p e s m args below meth c s₁ B hml hv
  obtain ⟨rfl, hsz, hP, hK, hD0, ham⟩ := hv
  subst hsz
  have hx := B.exec
  have hb := B.bytes
  have hr := B.returns
  have hts : ∀ w ∈ goT, w.before _ s = true := fun w h => atoms_spec (ws := w_M_logoff) B.pre w (List.mem_cons_of_mem _ h)
  have hg : ∀ w, goB w = true → w.before _ s = true := fun w h => hts w (goI h)
  have hown : s.vm.findClass R_M = some m.cls := findClass_of_methodNamed B.named
  have hlocks := B.notSynchronized
  have h0 : z_st G (wM bd G st ++ wr) s := ⟨hK, ham⟩
  have hw : z_wl G (wM bd G st ++ wr) s (wM bd G st ++ wr) s.heap [] := z_0 hP hD0
  have hl := lv_entry ([.ref (bd 0)]) (n := 2) (Nat.le_of_ble_eq_true rfl)
  rw [lg_entry_eq]
  generalize (lg_sl ([.ref (bd 0)]) ++ List.replicate (2 - (lg_sl ([.ref (bd 0)])).length) Slot.unset).toArray = ls at hl ⊢
  have hl : lv_has ls 2 [(0, .ref (bd 0))] := hl
  refine lv_aload_n hx hb d_M_logoff_0 rfl (lv_at hl 0 rfl) ?_
  refine lv_iconst (v := 0) hx hb d_M_logoff_1 (by decide) ?_
  refine va_put (D := G.1) (ci := 3) (v := .int 0) (ty := .int) (C := R_M) (T := T_M) (N := 25) hx hb hts in_M ty_M ty_M_ok n_M hown h0.1 hw.1 hw.2.1 hw.2.2 0 rfl rfl 0 (by decide) (hg (.fieldLink R_M 54 "SecureEntryModel" "thrown" "I") (by decide +kernel)) (fun _ h9 => h9) rfl (by decide +kernel) rfl rfl (Nat.le_of_ble_eq_true rfl) d_M_logoff_2 (fun H locs hP hD hS => ?_)
  have hI : InvM (mS st 0 0) := invm_mS hI (by decide)
  have hw : z_wl G (wM bd G st ++ wr) s (wM bd G (mS st 0 0) ++ wr) H locs := ⟨hP, hD, hS⟩
  refine lv_aload_n hx hb d_M_logoff_5 rfl (lv_at hl 0 rfl) ?_
  refine va_get (D := G.1) (ci := 3) (v := .int (st.1 13)) (C := R_M) (T := T_M) (N := 25) hx hb hts in_M hown h0.1 hw.1 0 rfl rfl 13 (by decide) (hg (.fieldLink R_M 99 "SecureEntryModel" "up" "Z") (by decide +kernel)) (fun _ h9 => h9) rfl d_M_logoff_6 ?_
  refine lv_if_eq (tgt := 19) hx hb d_M_logoff_9 (by decide) (fun c_9 => ?_) (fun c_9 => ?_)
  · refine lv_aload_n hx hb d_M_logoff_19 rfl (lv_at hl 0 rfl) ?_
    refine lv_iconst (v := 1) hx hb d_M_logoff_20 (by decide) ?_
    refine z_Vi0 (As := [.int 1]) (v := 0) (ws1 := (wM bd G (mS (mS st 0 0) 0 1) ++ wr)) ⟨hx, hb, hml, hown, hts⟩ (c_M_raise l G bd (mS st 0 0) wr _ 1) (cwV 1 hts gV_M_81 rfl rfl rfl (by decide +kernel) ⟨Nat.le_of_ble_eq_true rfl, Nat.le_of_ble_eq_true rfl⟩) h0 hw 0 rfl rfl rfl rfl hl.1 rfl (Nat.le_of_ble_eq_true rfl) d_M_logoff_21 ⟨Nat.le_of_ble_eq_true rfl, Nat.le_of_ble_eq_true rfl⟩ (fun H locs hw => ?_)
    have hI : InvM (mS (mS st 0 0) 0 1) := invm_mS hI (by decide)
    exact z_iret (wf := fun _ : Unit => (wM bd G (m_logoff st).2 ++ wr)) (post := fun r _ => r = (m_logoff st).1) (u := ()) hx hb hr hlocks h0 (by rw [m_logoff, if_pos c_9]; exact hw) rfl (by rw [m_logoff, if_pos c_9]) (Nat.le_of_ble_eq_true rfl) (Nat.le_of_ble_eq_true rfl) d_M_logoff_24
  · refine lv_aload_n hx hb d_M_logoff_12 rfl (lv_at hl 0 rfl) ?_
    refine va_get (D := G.1) (ci := 3) (v := .int (st.1 12)) (C := R_M) (T := T_M) (N := 25) hx hb hts in_M hown h0.1 hw.1 0 rfl rfl 12 (by decide) (hg (.fieldLink R_M 42 "SecureEntryModel" "inner" "I") (by decide +kernel)) (fun _ h9 => h9) rfl d_M_logoff_13 ?_
    refine lv_if_ge (tgt := 25) hx hb d_M_logoff_16 (by decide) (fun c_16 => ?_) (fun c_16 => ?_)
    · refine lv_aload_n hx hb d_M_logoff_25 rfl (lv_at hl 0 rfl) ?_
      refine va_get (D := G.1) (ci := 3) (v := .int (st.1 12)) (C := R_M) (T := T_M) (N := 25) hx hb hts in_M hown h0.1 hw.1 0 rfl rfl 12 (by decide) (hg (.fieldLink R_M 42 "SecureEntryModel" "inner" "I") (by decide +kernel)) (fun _ h9 => h9) rfl d_M_logoff_26 ?_
      refine lv_istore_n (lv' := [(1, .int (st.1 12)), (0, .ref (bd 0))]) hx hb d_M_logoff_29 rfl hl (by decide) rfl (fun ls hl => ?_)
      refine lv_aload_n hx hb d_M_logoff_30 rfl (lv_at hl 1 rfl) ?_
      refine va_get (D := G.1) (ci := 3) (v := .int (st.1 16)) (C := R_M) (T := T_M) (N := 25) hx hb hts in_M hown h0.1 hw.1 0 rfl rfl 16 (by decide) (hg (.fieldLink R_M 116 "SecureEntryModel" "role" "I") (by decide +kernel)) (fun _ h9 => h9) rfl d_M_logoff_31 ?_
      refine lv_if_le (tgt := 44) hx hb d_M_logoff_34 (by decide) (fun c_34 => ?_) (fun c_34 => ?_)
      · refine lv_aload_n hx hb d_M_logoff_44 rfl (lv_at hl 1 rfl) ?_
        refine lv_iconst (v := 0) hx hb d_M_logoff_45 (by decide) ?_
        refine va_put (D := G.1) (ci := 3) (v := .int 0) (ty := .int) (C := R_M) (T := T_M) (N := 25) hx hb hts in_M ty_M ty_M_ok n_M hown h0.1 hw.1 hw.2.1 hw.2.2 0 rfl rfl 16 (by decide) (hg (.fieldLink R_M 116 "SecureEntryModel" "role" "I") (by decide +kernel)) (fun _ h9 => h9) rfl (by decide +kernel) rfl rfl (Nat.le_of_ble_eq_true rfl) d_M_logoff_46 (fun H locs hP hD hS => ?_)
        have hI : InvM (mS (mS st 0 0) 16 0) := invm_mS hI (by decide)
        have hw : z_wl G (wM bd G st ++ wr) s (wM bd G (mS (mS st 0 0) 16 0) ++ wr) H locs := ⟨hP, hD, hS⟩
        refine lv_aload_n hx hb d_M_logoff_49 rfl (lv_at hl 1 rfl) ?_
        refine lv_iconst (v := (-1)) hx hb d_M_logoff_50 (by decide) ?_
        refine va_put (D := G.1) (ci := 3) (v := .int (-1)) (ty := .int) (C := R_M) (T := T_M) (N := 25) hx hb hts in_M ty_M ty_M_ok n_M hown h0.1 hw.1 hw.2.1 hw.2.2 0 rfl rfl 12 (by decide) (hg (.fieldLink R_M 42 "SecureEntryModel" "inner" "I") (by decide +kernel)) (fun _ h9 => h9) rfl (by decide +kernel) rfl rfl (Nat.le_of_ble_eq_true rfl) d_M_logoff_51 (fun H locs hP hD hS => ?_)
        have hI : InvM (mS (mS (mS st 0 0) 16 0) 12 (-1)) := invm_tok12 hI (by first | (unfold vp_in; decide) | assumption | exact Or.inl rfl | exact Or.inr (by assumption))
        have hw : z_wl G (wM bd G st ++ wr) s (wM bd G (mS (mS (mS st 0 0) 16 0) 12 (-1)) ++ wr) H locs := ⟨hP, hD, hS⟩
        refine lv_iload_n hx hb d_M_logoff_54 rfl (lv_at hl 0 rfl) ?_
        exact z_iret (wf := fun _ : Unit => (wM bd G (m_logoff st).2 ++ wr)) (post := fun r _ => r = (m_logoff st).1) (u := ()) hx hb hr hlocks h0 (by rw [m_logoff, if_neg c_9, if_pos c_16, if_pos c_34]; exact hw) rfl (by rw [m_logoff, if_neg c_9, if_pos c_16, if_pos c_34]) (Nat.le_of_ble_eq_true rfl) (Nat.le_of_ble_eq_true rfl) d_M_logoff_55
      · refine lv_aload_n hx hb d_M_logoff_37 rfl (lv_at hl 1 rfl) ?_
        refine lv_bipush (v := 11) hx hb d_M_logoff_38 (by decide) ?_
        refine lv_iload_n hx hb d_M_logoff_40 rfl (lv_at hl 0 rfl) ?_
        refine z_Vv0 (As := [.int 11, .int (st.1 12)]) (ws1 := (wM bd G (m_note (mS st 0 0) 11 (st.1 12)) ++ wr)) ⟨hx, hb, hml, hown, hts⟩ (c_M_note l G bd (mS st 0 0) wr _ 11 (st.1 12) hI hI.2.2.2) (cwV 2 hts gV_M_122 rfl rfl rfl (by decide +kernel) ⟨Nat.le_of_ble_eq_true rfl, Nat.le_of_ble_eq_true rfl⟩) h0 hw 0 rfl rfl rfl rfl hl.1 rfl (Nat.le_of_ble_eq_true rfl) d_M_logoff_41 ⟨Nat.le_of_ble_eq_true rfl, Nat.le_of_ble_eq_true rfl⟩ (fun H locs hw => ?_)
        have hI : InvM (m_note (mS st 0 0) 11 (st.1 12)) := inv_m_note hI
        refine lv_aload_n hx hb d_M_logoff_44 rfl (lv_at hl 1 rfl) ?_
        refine lv_iconst (v := 0) hx hb d_M_logoff_45 (by decide) ?_
        refine va_put (D := G.1) (ci := 3) (v := .int 0) (ty := .int) (C := R_M) (T := T_M) (N := 25) hx hb hts in_M ty_M ty_M_ok n_M hown h0.1 hw.1 hw.2.1 hw.2.2 0 rfl rfl 16 (by decide) (hg (.fieldLink R_M 116 "SecureEntryModel" "role" "I") (by decide +kernel)) (fun _ h9 => h9) rfl (by decide +kernel) rfl rfl (Nat.le_of_ble_eq_true rfl) d_M_logoff_46 (fun H locs hP hD hS => ?_)
        have hI : InvM (mS (m_note (mS st 0 0) 11 (st.1 12)) 16 0) := invm_mS hI (by decide)
        have hw : z_wl G (wM bd G st ++ wr) s (wM bd G (mS (m_note (mS st 0 0) 11 (st.1 12)) 16 0) ++ wr) H locs := ⟨hP, hD, hS⟩
        refine lv_aload_n hx hb d_M_logoff_49 rfl (lv_at hl 1 rfl) ?_
        refine lv_iconst (v := (-1)) hx hb d_M_logoff_50 (by decide) ?_
        refine va_put (D := G.1) (ci := 3) (v := .int (-1)) (ty := .int) (C := R_M) (T := T_M) (N := 25) hx hb hts in_M ty_M ty_M_ok n_M hown h0.1 hw.1 hw.2.1 hw.2.2 0 rfl rfl 12 (by decide) (hg (.fieldLink R_M 42 "SecureEntryModel" "inner" "I") (by decide +kernel)) (fun _ h9 => h9) rfl (by decide +kernel) rfl rfl (Nat.le_of_ble_eq_true rfl) d_M_logoff_51 (fun H locs hP hD hS => ?_)
        have hI : InvM (mS (mS (m_note (mS st 0 0) 11 (st.1 12)) 16 0) 12 (-1)) := invm_tok12 hI (by first | (unfold vp_in; decide) | assumption | exact Or.inl rfl | exact Or.inr (by assumption))
        have hw : z_wl G (wM bd G st ++ wr) s (wM bd G (mS (mS (m_note (mS st 0 0) 11 (st.1 12)) 16 0) 12 (-1)) ++ wr) H locs := ⟨hP, hD, hS⟩
        refine lv_iload_n hx hb d_M_logoff_54 rfl (lv_at hl 0 rfl) ?_
        exact z_iret (wf := fun _ : Unit => (wM bd G (m_logoff st).2 ++ wr)) (post := fun r _ => r = (m_logoff st).1) (u := ()) hx hb hr hlocks h0 (by rw [m_logoff, if_neg c_9, if_pos c_16, if_neg c_34]; exact hw) rfl (by rw [m_logoff, if_neg c_9, if_pos c_16, if_neg c_34]) (Nat.le_of_ble_eq_true rfl) (Nat.le_of_ble_eq_true rfl) d_M_logoff_55
    · refine lv_aload_n hx hb d_M_logoff_19 rfl (lv_at hl 0 rfl) ?_
      refine lv_iconst (v := 1) hx hb d_M_logoff_20 (by decide) ?_
      refine z_Vi0 (As := [.int 1]) (v := 0) (ws1 := (wM bd G (mS (mS st 0 0) 0 1) ++ wr)) ⟨hx, hb, hml, hown, hts⟩ (c_M_raise l G bd (mS st 0 0) wr _ 1) (cwV 1 hts gV_M_81 rfl rfl rfl (by decide +kernel) ⟨Nat.le_of_ble_eq_true rfl, Nat.le_of_ble_eq_true rfl⟩) h0 hw 0 rfl rfl rfl rfl hl.1 rfl (Nat.le_of_ble_eq_true rfl) d_M_logoff_21 ⟨Nat.le_of_ble_eq_true rfl, Nat.le_of_ble_eq_true rfl⟩ (fun H locs hw => ?_)
      have hI : InvM (mS (mS st 0 0) 0 1) := invm_mS hI (by decide)
      exact z_iret (wf := fun _ : Unit => (wM bd G (m_logoff st).2 ++ wr)) (post := fun r _ => r = (m_logoff st).1) (u := ()) hx hb hr hlocks h0 (by rw [m_logoff, if_neg c_9, if_neg c_16]; exact hw) rfl (by rw [m_logoff, if_neg c_9, if_neg c_16]) (Nat.le_of_ble_eq_true rfl) (Nat.le_of_ble_eq_true rfl) d_M_logoff_24
set_option maxHeartbeats 4000000 in
set_option maxRecDepth 100000 in
theorem c_M_override (l : Launch) (G : gG) (bd : Nat → Nat) (st : MS) (wr : va_W) (sz : Nat)  (hI : InvM st) : Met l y_M_override w_M_override { frames := 2, cells := 0, slots := 0, locals := 45 } (va_Pc [.ref (bd 0)] (z_pre G (wM bd G st ++ wr) sz)) (z_Qi0 G (wM bd G st ++ wr) sz (wM bd G (m_override st).2 ++ wr) (m_override st).1) 0 0 (va_A (wM bd G st ++ wr) sz) := by
  refine Met.ofW (cc := b_M_override) (maxL := 1) (ret := (some .int)) (by decide) rfl ?_
  intro p e s m args below meth c s₁ B hml hv
  obtain ⟨rfl, hsz, hP, hK, hD0, ham⟩ := hv
  subst hsz
  have hx := B.exec
  have hb := B.bytes
  have hr := B.returns
  have hts : ∀ w ∈ goT, w.before _ s = true := fun w h => atoms_spec (ws := w_M_override) B.pre w (List.mem_cons_of_mem _ h)
  have hg : ∀ w, goB w = true → w.before _ s = true := fun w h => hts w (goI h)
  have hown : s.vm.findClass R_M = some m.cls := findClass_of_methodNamed B.named
  have hlocks := B.notSynchronized
  have h0 : z_st G (wM bd G st ++ wr) s := ⟨hK, ham⟩
  have hw : z_wl G (wM bd G st ++ wr) s (wM bd G st ++ wr) s.heap [] := z_0 hP hD0
  have hl := lv_entry ([.ref (bd 0)]) (n := 1) (Nat.le_of_ble_eq_true rfl)
  rw [lg_entry_eq]
  generalize (lg_sl ([.ref (bd 0)]) ++ List.replicate (1 - (lg_sl ([.ref (bd 0)])).length) Slot.unset).toArray = ls at hl ⊢
  have hl : lv_has ls 1 [(0, .ref (bd 0))] := hl
  refine lv_aload_n hx hb d_M_override_0 rfl (lv_at hl 0 rfl) ?_
  refine lv_aload_n hx hb d_M_override_1 rfl (lv_at hl 0 rfl) ?_
  refine lv_iconst (v := 1) hx hb d_M_override_2 (by decide) ?_
  refine z_Vi0 (As := [.int 1]) (v := (m_refusal st 1)) ⟨hx, hb, hml, hown, hts⟩ (c_M_refusal l G bd st wr _ 1) (cwV 1 hts gV_M_148 rfl rfl rfl (by decide +kernel) ⟨Nat.le_of_ble_eq_true rfl, Nat.le_of_ble_eq_true rfl⟩) h0 hw 0 rfl rfl rfl rfl hl.1 rfl (Nat.le_of_ble_eq_true rfl) d_M_override_3 ⟨Nat.le_of_ble_eq_true rfl, Nat.le_of_ble_eq_true rfl⟩ (fun H locs hw => ?_)
  refine va_put (D := G.1) (ci := 3) (v := .int (m_refusal st 1)) (ty := .int) (C := R_M) (T := T_M) (N := 25) hx hb hts in_M ty_M ty_M_ok n_M hown h0.1 hw.1 hw.2.1 hw.2.2 0 rfl rfl 0 (by decide) (hg (.fieldLink R_M 54 "SecureEntryModel" "thrown" "I") (by decide +kernel)) (fun _ h9 => h9) rfl (by decide +kernel) rfl rfl (Nat.le_of_ble_eq_true rfl) d_M_override_6 (fun H locs hP hD hS => ?_)
  have hI : InvM (mS st 0 (m_refusal st 1)) := invm_mS hI (by decide)
  have hw : z_wl G (wM bd G st ++ wr) s (wM bd G (mS st 0 (m_refusal st 1)) ++ wr) H locs := ⟨hP, hD, hS⟩
  refine lv_aload_n hx hb d_M_override_9 rfl (lv_at hl 0 rfl) ?_
  refine va_get (D := G.1) (ci := 3) (v := .int (m_refusal st 1)) (C := R_M) (T := T_M) (N := 25) hx hb hts in_M hown h0.1 hw.1 0 rfl rfl 0 (by decide) (hg (.fieldLink R_M 54 "SecureEntryModel" "thrown" "I") (by decide +kernel)) (fun _ h9 => h9) rfl d_M_override_10 ?_
  refine lv_if_eq (tgt := 18) hx hb d_M_override_13 (by decide) (fun c_13 => ?_) (fun c_13 => ?_)
  · refine lv_aload_n hx hb d_M_override_18 rfl (lv_at hl 0 rfl) ?_
    refine z_Vv0 (As := []) (ws1 := (wM bd G (m_unlock (mS st 0 (m_refusal st 1))) ++ wr)) ⟨hx, hb, hml, hown, hts⟩ (c_M_unlock l G bd (mS st 0 (m_refusal st 1)) wr _) (cwV 0 hts gV_M_145 rfl rfl rfl (by decide +kernel) ⟨Nat.le_of_ble_eq_true rfl, Nat.le_of_ble_eq_true rfl⟩) h0 hw 0 rfl rfl rfl rfl hl.1 rfl (Nat.le_of_ble_eq_true rfl) d_M_override_19 ⟨Nat.le_of_ble_eq_true rfl, Nat.le_of_ble_eq_true rfl⟩ (fun H locs hw => ?_)
    have hI : InvM (m_unlock (mS st 0 (m_refusal st 1))) := inv_m_unlock hI
    refine lv_aload_n hx hb d_M_override_22 rfl (lv_at hl 0 rfl) ?_
    refine lv_bipush (v := 12) hx hb d_M_override_23 (by decide) ?_
    refine lv_aload_n hx hb d_M_override_25 rfl (lv_at hl 0 rfl) ?_
    refine va_get (D := G.1) (ci := 3) (v := .int ((m_unlock (mS st 0 (m_refusal st 1))).1 12)) (C := R_M) (T := T_M) (N := 25) hx hb hts in_M hown h0.1 hw.1 0 rfl rfl 12 (by decide) (hg (.fieldLink R_M 42 "SecureEntryModel" "inner" "I") (by decide +kernel)) (fun _ h9 => h9) rfl d_M_override_26 ?_
    refine z_Vv0 (As := [.int 12, .int ((m_unlock (mS st 0 (m_refusal st 1))).1 12)]) (ws1 := (wM bd G (m_note (m_unlock (mS st 0 (m_refusal st 1))) 12 ((m_unlock (mS st 0 (m_refusal st 1))).1 12)) ++ wr)) ⟨hx, hb, hml, hown, hts⟩ (c_M_note l G bd (m_unlock (mS st 0 (m_refusal st 1))) wr _ 12 ((m_unlock (mS st 0 (m_refusal st 1))).1 12) hI hI.2.2.2) (cwV 2 hts gV_M_122 rfl rfl rfl (by decide +kernel) ⟨Nat.le_of_ble_eq_true rfl, Nat.le_of_ble_eq_true rfl⟩) h0 hw 0 rfl rfl rfl rfl hl.1 rfl (Nat.le_of_ble_eq_true rfl) d_M_override_29 ⟨Nat.le_of_ble_eq_true rfl, Nat.le_of_ble_eq_true rfl⟩ (fun H locs hw => ?_)
    have hI : InvM (m_note (m_unlock (mS st 0 (m_refusal st 1))) 12 ((m_unlock (mS st 0 (m_refusal st 1))).1 12)) := inv_m_note hI
    refine lv_aload_n hx hb d_M_override_32 rfl (lv_at hl 0 rfl) ?_
    refine va_get (D := G.1) (ci := 3) (v := .int ((m_note (m_unlock (mS st 0 (m_refusal st 1))) 12 ((m_unlock (mS st 0 (m_refusal st 1))).1 12)).1 17)) (C := R_M) (T := T_M) (N := 25) hx hb hts in_M hown h0.1 hw.1 0 rfl rfl 17 (by decide) (hg (.fieldLink R_M 139 "SecureEntryModel" "until" "I") (by decide +kernel)) (fun _ h9 => h9) rfl d_M_override_33 ?_
    exact z_iret (wf := fun _ : Unit => (wM bd G (m_override st).2 ++ wr)) (post := fun r _ => r = (m_override st).1) (u := ()) hx hb hr hlocks h0 (by rw [m_override, if_pos c_13]; exact hw) rfl (by rw [m_override, if_pos c_13]) (Nat.le_of_ble_eq_true rfl) (Nat.le_of_ble_eq_true rfl) d_M_override_36
  · refine lv_iconst (v := 0) hx hb d_M_override_16 (by decide) ?_
    exact z_iret (wf := fun _ : Unit => (wM bd G (m_override st).2 ++ wr)) (post := fun r _ => r = (m_override st).1) (u := ()) hx hb hr hlocks h0 (by rw [m_override, if_neg c_13]; exact hw) rfl (by rw [m_override, if_neg c_13]) (Nat.le_of_ble_eq_true rfl) (Nat.le_of_ble_eq_true rfl) d_M_override_17
set_option maxHeartbeats 4000000 in
set_option maxRecDepth 100000 in
theorem c_M_archive (l : Launch) (G : gG) (bd : Nat → Nat) (st : MS) (wr : va_W) (sz : Nat)  (hI : InvM st) : Met l y_M_archive w_M_archive { frames := 2, cells := 0, slots := 0, locals := 45 } (va_Pc [.ref (bd 0)] (z_pre G (wM bd G st ++ wr) sz)) (z_Qi0 G (wM bd G st ++ wr) sz (wM bd G (m_archive st).2 ++ wr) (m_archive st).1) 0 0 (va_A (wM bd G st ++ wr) sz) := by
  refine Met.ofW (cc := b_M_archive) (maxL := 2) (ret := (some .int)) (by decide) rfl ?_
  intro p e s m args below meth c s₁ B hml hv
  obtain ⟨rfl, hsz, hP, hK, hD0, ham⟩ := hv
  subst hsz
  have hx := B.exec
  have hb := B.bytes
  have hr := B.returns
  have hts : ∀ w ∈ goT, w.before _ s = true := fun w h => atoms_spec (ws := w_M_archive) B.pre w (List.mem_cons_of_mem _ h)
  have hg : ∀ w, goB w = true → w.before _ s = true := fun w h => hts w (goI h)
  have hown : s.vm.findClass R_M = some m.cls := findClass_of_methodNamed B.named
  have hlocks := B.notSynchronized
  have h0 : z_st G (wM bd G st ++ wr) s := ⟨hK, ham⟩
  have hw : z_wl G (wM bd G st ++ wr) s (wM bd G st ++ wr) s.heap [] := z_0 hP hD0
  have hl := lv_entry ([.ref (bd 0)]) (n := 2) (Nat.le_of_ble_eq_true rfl)
  rw [lg_entry_eq]
  generalize (lg_sl ([.ref (bd 0)]) ++ List.replicate (2 - (lg_sl ([.ref (bd 0)])).length) Slot.unset).toArray = ls at hl ⊢
  have hl : lv_has ls 2 [(0, .ref (bd 0))] := hl
  refine lv_aload_n hx hb d_M_archive_0 rfl (lv_at hl 0 rfl) ?_
  refine lv_aload_n hx hb d_M_archive_1 rfl (lv_at hl 0 rfl) ?_
  refine lv_iconst (v := 2) hx hb d_M_archive_2 (by decide) ?_
  refine z_Vi0 (As := [.int 2]) (v := (m_refusal st 2)) ⟨hx, hb, hml, hown, hts⟩ (c_M_refusal l G bd st wr _ 2) (cwV 1 hts gV_M_148 rfl rfl rfl (by decide +kernel) ⟨Nat.le_of_ble_eq_true rfl, Nat.le_of_ble_eq_true rfl⟩) h0 hw 0 rfl rfl rfl rfl hl.1 rfl (Nat.le_of_ble_eq_true rfl) d_M_archive_3 ⟨Nat.le_of_ble_eq_true rfl, Nat.le_of_ble_eq_true rfl⟩ (fun H locs hw => ?_)
  refine va_put (D := G.1) (ci := 3) (v := .int (m_refusal st 2)) (ty := .int) (C := R_M) (T := T_M) (N := 25) hx hb hts in_M ty_M ty_M_ok n_M hown h0.1 hw.1 hw.2.1 hw.2.2 0 rfl rfl 0 (by decide) (hg (.fieldLink R_M 54 "SecureEntryModel" "thrown" "I") (by decide +kernel)) (fun _ h9 => h9) rfl (by decide +kernel) rfl rfl (Nat.le_of_ble_eq_true rfl) d_M_archive_6 (fun H locs hP hD hS => ?_)
  have hI : InvM (mS st 0 (m_refusal st 2)) := invm_mS hI (by decide)
  have hw : z_wl G (wM bd G st ++ wr) s (wM bd G (mS st 0 (m_refusal st 2)) ++ wr) H locs := ⟨hP, hD, hS⟩
  refine lv_aload_n hx hb d_M_archive_9 rfl (lv_at hl 0 rfl) ?_
  refine va_get (D := G.1) (ci := 3) (v := .int (m_refusal st 2)) (C := R_M) (T := T_M) (N := 25) hx hb hts in_M hown h0.1 hw.1 0 rfl rfl 0 (by decide) (hg (.fieldLink R_M 54 "SecureEntryModel" "thrown" "I") (by decide +kernel)) (fun _ h9 => h9) rfl d_M_archive_10 ?_
  refine lv_if_eq (tgt := 18) hx hb d_M_archive_13 (by decide) (fun c_13 => ?_) (fun c_13 => ?_)
  · refine lv_aload_n hx hb d_M_archive_18 rfl (lv_at hl 0 rfl) ?_
    refine va_get (D := G.1) (ci := 3) (v := .int (st.1 23)) (C := R_M) (T := T_M) (N := 25) hx hb hts in_M hown h0.1 hw.1 0 rfl rfl 23 (by decide) (hg (.fieldLink R_M 103 "SecureEntryModel" "logged" "I") (by decide +kernel)) (fun _ h9 => h9) rfl d_M_archive_19 ?_
    refine lv_istore_n (lv' := [(1, .int (st.1 23)), (0, .ref (bd 0))]) hx hb d_M_archive_22 rfl hl (by decide) rfl (fun ls hl => ?_)
    refine lv_aload_n hx hb d_M_archive_23 rfl (lv_at hl 1 rfl) ?_
    refine lv_iconst (v := 0) hx hb d_M_archive_24 (by decide) ?_
    refine va_put (D := G.1) (ci := 3) (v := .int 0) (ty := .int) (C := R_M) (T := T_M) (N := 25) hx hb hts in_M ty_M ty_M_ok n_M hown h0.1 hw.1 hw.2.1 hw.2.2 0 rfl rfl 23 (by decide) (hg (.fieldLink R_M 103 "SecureEntryModel" "logged" "I") (by decide +kernel)) (fun _ h9 => h9) rfl (by decide +kernel) rfl rfl (Nat.le_of_ble_eq_true rfl) d_M_archive_25 (fun H locs hP hD hS => ?_)
    have hI : InvM (mS (mS st 0 (m_refusal st 2)) 23 0) := invm_size hI (by first | (unfold vp_in; decide) | assumption | exact Or.inl rfl | exact Or.inr (by assumption))
    have hw : z_wl G (wM bd G st ++ wr) s (wM bd G (mS (mS st 0 (m_refusal st 2)) 23 0) ++ wr) H locs := ⟨hP, hD, hS⟩
    refine lv_aload_n hx hb d_M_archive_28 rfl (lv_at hl 1 rfl) ?_
    refine lv_iconst (v := 0) hx hb d_M_archive_29 (by decide) ?_
    refine va_put (D := G.1) (ci := 3) (v := .int 0) (ty := .boolean) (C := R_M) (T := T_M) (N := 25) hx hb hts in_M ty_M ty_M_ok n_M hown h0.1 hw.1 hw.2.1 hw.2.2 0 rfl rfl 24 (by decide) (hg (.fieldLink R_M 106 "SecureEntryModel" "logAlarm" "Z") (by decide +kernel)) (fun _ h9 => h9) rfl (by decide +kernel) rfl rfl (Nat.le_of_ble_eq_true rfl) d_M_archive_30 (fun H locs hP hD hS => ?_)
    have hI : InvM (mS (mS (mS st 0 (m_refusal st 2)) 23 0) 24 0) := invm_mS hI (by decide)
    have hw : z_wl G (wM bd G st ++ wr) s (wM bd G (mS (mS (mS st 0 (m_refusal st 2)) 23 0) 24 0) ++ wr) H locs := ⟨hP, hD, hS⟩
    refine lv_aload_n hx hb d_M_archive_33 rfl (lv_at hl 1 rfl) ?_
    refine lv_bipush (v := 13) hx hb d_M_archive_34 (by decide) ?_
    refine lv_aload_n hx hb d_M_archive_36 rfl (lv_at hl 1 rfl) ?_
    refine va_get (D := G.1) (ci := 3) (v := .int (st.1 12)) (C := R_M) (T := T_M) (N := 25) hx hb hts in_M hown h0.1 hw.1 0 rfl rfl 12 (by decide) (hg (.fieldLink R_M 42 "SecureEntryModel" "inner" "I") (by decide +kernel)) (fun _ h9 => h9) rfl d_M_archive_37 ?_
    refine z_Vv0 (As := [.int 13, .int (st.1 12)]) (ws1 := (wM bd G (m_note (mS (mS (mS st 0 (m_refusal st 2)) 23 0) 24 0) 13 (st.1 12)) ++ wr)) ⟨hx, hb, hml, hown, hts⟩ (c_M_note l G bd (mS (mS (mS st 0 (m_refusal st 2)) 23 0) 24 0) wr _ 13 (st.1 12) hI hI.2.2.2) (cwV 2 hts gV_M_122 rfl rfl rfl (by decide +kernel) ⟨Nat.le_of_ble_eq_true rfl, Nat.le_of_ble_eq_true rfl⟩) h0 hw 0 rfl rfl rfl rfl hl.1 rfl (Nat.le_of_ble_eq_true rfl) d_M_archive_40 ⟨Nat.le_of_ble_eq_true rfl, Nat.le_of_ble_eq_true rfl⟩ (fun H locs hw => ?_)
    have hI : InvM (m_note (mS (mS (mS st 0 (m_refusal st 2)) 23 0) 24 0) 13 (st.1 12)) := inv_m_note hI
    refine lv_iload_n hx hb d_M_archive_43 rfl (lv_at hl 0 rfl) ?_
    exact z_iret (wf := fun _ : Unit => (wM bd G (m_archive st).2 ++ wr)) (post := fun r _ => r = (m_archive st).1) (u := ()) hx hb hr hlocks h0 (by rw [m_archive, if_pos c_13]; exact hw) rfl (by rw [m_archive, if_pos c_13]) (Nat.le_of_ble_eq_true rfl) (Nat.le_of_ble_eq_true rfl) d_M_archive_44
  · refine lv_iconst (v := 0) hx hb d_M_archive_16 (by decide) ?_
    exact z_iret (wf := fun _ : Unit => (wM bd G (m_archive st).2 ++ wr)) (post := fun r _ => r = (m_archive st).1) (u := ()) hx hb hr hlocks h0 (by rw [m_archive, if_neg c_13]; exact hw) rfl (by rw [m_archive, if_neg c_13]) (Nat.le_of_ble_eq_true rfl) (Nat.le_of_ble_eq_true rfl) d_M_archive_17

end MC
