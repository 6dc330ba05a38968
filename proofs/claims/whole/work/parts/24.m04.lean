section MC
set_option maxHeartbeats 4000000 in
set_option maxRecDepth 100000 in
theorem c_M_authorised (l : Launch) (G : gG) (bd : Nat → Nat) (st : MS) (wr : va_W) (sz : Nat) (p1 : Int32) (hI : InvM st) (hp1 : vp_in p1 6) : Met l y_M_authorised w_M_authorised { frames := 2, cells := 0, slots := 0, locals := 50 } (va_Pc [.ref (bd 0), .int p1] (z_pre G (wM bd G st ++ wr) sz)) (z_Qi0 G (wM bd G st ++ wr) sz (wM bd G st ++ wr) (m_authorised st p1)) 0 0 (va_A (wM bd G st ++ wr) sz) := by
  refine Met.ofW (cc := b_M_authorised) (maxL := 2) (ret := (some .boolean)) (by decide) rfl ?_
  intro p e s m args below meth c s₁ B hml hv
  obtain ⟨rfl, hsz, hP, hK, hD0, ham⟩ := hv
  subst hsz
  have hx := B.exec
  have hb := B.bytes
  have hr := B.returns
  have hts : ∀ w ∈ goT, w.before _ s = true := fun w h => atoms_spec (ws := w_M_authorised) B.pre w (List.mem_cons_of_mem _ h)
  have hg : ∀ w, goB w = true → w.before _ s = true := fun w h => hts w (goI h)
  have hown : s.vm.findClass R_M = some m.cls := findClass_of_methodNamed B.named
  have hlocks := B.notSynchronized
  have h0 : z_st G (wM bd G st ++ wr) s := ⟨hK, ham⟩
  have hw : z_wl G (wM bd G st ++ wr) s (wM bd G st ++ wr) s.heap [] := z_0 hP hD0
  have hl := lv_entry ([.ref (bd 0), .int p1]) (n := 2) (Nat.le_of_ble_eq_true rfl)
  rw [lg_entry_eq]
  generalize (lg_sl ([.ref (bd 0), .int p1]) ++ List.replicate (2 - (lg_sl ([.ref (bd 0), .int p1])).length) Slot.unset).toArray = ls at hl ⊢
  have hl : lv_has ls 2 [(0, .ref (bd 0)), (1, .int p1)] := hl
  refine lv_aload_n hx hb d_M_authorised_0 rfl (lv_at hl 0 rfl) ?_
  refine lv_iconst (v := 4) hx hb d_M_authorised_1 (by decide) ?_
  refine lv_iload_n hx hb d_M_authorised_2 rfl (lv_at hl 1 rfl) ?_
  refine lv_imul hx hb d_M_authorised_3 ?_
  refine z_Vi0 (As := [.int (4 * p1)]) (v := (m_valid st (4 * p1))) ⟨hx, hb, hml, hown, hts⟩ (c_M_valid l G bd st wr _ (4 * p1) hI (z_m0 hp1)) (cwV 1 hts gV_M_96 rfl rfl rfl (by decide +kernel) ⟨Nat.le_of_ble_eq_true rfl, Nat.le_of_ble_eq_true rfl⟩) h0 hw 0 rfl rfl rfl rfl hl.1 rfl (Nat.le_of_ble_eq_true rfl) d_M_authorised_4 ⟨Nat.le_of_ble_eq_true rfl, Nat.le_of_ble_eq_true rfl⟩ (fun H locs hw => ?_)
  refine lv_if_eq (tgt := 47) hx hb d_M_authorised_7 (by decide) (fun c_7 => ?_) (fun c_7 => ?_)
  · refine lv_iconst (v := 0) hx hb d_M_authorised_47 (by decide) ?_
    exact z_iret (wf := fun _ : Unit => (wM bd G st ++ wr)) (u := ()) hx hb hr hlocks h0 hw rfl (by rw [m_authorised, if_pos c_7]) (Nat.le_of_ble_eq_true rfl) (Nat.le_of_ble_eq_true rfl) d_M_authorised_48
  · refine lv_aload_n hx hb d_M_authorised_10 rfl (lv_at hl 0 rfl) ?_
    refine lv_iconst (v := 4) hx hb d_M_authorised_11 (by decide) ?_
    refine lv_iload_n hx hb d_M_authorised_12 rfl (lv_at hl 1 rfl) ?_
    refine lv_imul hx hb d_M_authorised_13 ?_
    refine lv_iconst (v := 3) hx hb d_M_authorised_14 (by decide) ?_
    refine lv_iadd hx hb d_M_authorised_15 ?_
    refine z_Vi0 (As := [.int ((4 * p1) + 3)]) (v := (m_valid st ((4 * p1) + 3))) ⟨hx, hb, hml, hown, hts⟩ (c_M_valid l G bd st wr _ ((4 * p1) + 3) hI (z_m3 hp1)) (cwV 1 hts gV_M_96 rfl rfl rfl (by decide +kernel) ⟨Nat.le_of_ble_eq_true rfl, Nat.le_of_ble_eq_true rfl⟩) h0 hw 0 rfl rfl rfl rfl hl.1 rfl (Nat.le_of_ble_eq_true rfl) d_M_authorised_16 ⟨Nat.le_of_ble_eq_true rfl, Nat.le_of_ble_eq_true rfl⟩ (fun H locs hw => ?_)
    refine lv_if_eq (tgt := 47) hx hb d_M_authorised_19 (by decide) (fun c_19 => ?_) (fun c_19 => ?_)
    · refine lv_iconst (v := 0) hx hb d_M_authorised_47 (by decide) ?_
      exact z_iret (wf := fun _ : Unit => (wM bd G st ++ wr)) (u := ()) hx hb hr hlocks h0 hw rfl (by rw [m_authorised, if_neg c_7, if_pos c_19]) (Nat.le_of_ble_eq_true rfl) (Nat.le_of_ble_eq_true rfl) d_M_authorised_48
    · refine lv_aload_n hx hb d_M_authorised_22 rfl (lv_at hl 0 rfl) ?_
      refine va_get (D := G.1) (ci := 3) (v := .ref (bd 6)) (C := R_M) (T := T_M) (N := 25) hx hb hts in_M hown h0.1 hw.1 0 rfl rfl 6 (by decide) (hg (.fieldLink R_M 23 "SecureEntryModel" "holder" "[I") (by decide +kernel)) (fun _ h9 => h9) rfl d_M_authorised_23 ?_
      refine lv_iconst (v := 4) hx hb d_M_authorised_26 (by decide) ?_
      refine lv_iload_n hx hb d_M_authorised_27 rfl (lv_at hl 1 rfl) ?_
      refine lv_imul hx hb d_M_authorised_28 ?_
      refine va_iald (f := (st.2 6)) hx hb h0.1 hw.1 5 0 rfl rfl (z_m0 hp1) d_M_authorised_29 ?_
      refine lv_aload_n hx hb d_M_authorised_30 rfl (lv_at hl 0 rfl) ?_
      refine va_get (D := G.1) (ci := 3) (v := .ref (bd 6)) (C := R_M) (T := T_M) (N := 25) hx hb hts in_M hown h0.1 hw.1 0 rfl rfl 6 (by decide) (hg (.fieldLink R_M 23 "SecureEntryModel" "holder" "[I") (by decide +kernel)) (fun _ h9 => h9) rfl d_M_authorised_31 ?_
      refine lv_iconst (v := 4) hx hb d_M_authorised_34 (by decide) ?_
      refine lv_iload_n hx hb d_M_authorised_35 rfl (lv_at hl 1 rfl) ?_
      refine lv_imul hx hb d_M_authorised_36 ?_
      refine lv_iconst (v := 3) hx hb d_M_authorised_37 (by decide) ?_
      refine lv_iadd hx hb d_M_authorised_38 ?_
      refine va_iald (f := (st.2 6)) hx hb h0.1 hw.1 5 0 rfl rfl (z_m3 hp1) d_M_authorised_39 ?_
      refine lv_icmp_ne (tgt := 47) hx hb d_M_authorised_40 (by decide) (fun c_40 => ?_) (fun c_40 => ?_)
      · refine lv_iconst (v := 0) hx hb d_M_authorised_47 (by decide) ?_
        exact z_iret (wf := fun _ : Unit => (wM bd G st ++ wr)) (u := ()) hx hb hr hlocks h0 hw rfl (by rw [m_authorised, if_neg c_7, if_neg c_19, if_neg c_40]) (Nat.le_of_ble_eq_true rfl) (Nat.le_of_ble_eq_true rfl) d_M_authorised_48
      · refine lv_iconst (v := 1) hx hb d_M_authorised_43 (by decide) ?_
        refine lv_goto (tgt := 48) hx hb d_M_authorised_44 (by decide) ?_
        exact z_iret (wf := fun _ : Unit => (wM bd G st ++ wr)) (u := ()) hx hb hr hlocks h0 hw rfl (by rw [m_authorised, if_neg c_7, if_neg c_19, if_pos c_40]) (Nat.le_of_ble_eq_true rfl) (Nat.le_of_ble_eq_true rfl) d_M_authorised_48
set_option maxHeartbeats 4000000 in
set_option maxRecDepth 100000 in
theorem c_M_signature (l : Launch) (G : gG) (bd : Nat → Nat) (st : MS) (wr : va_W) (sz : Nat) (p1 : Int32) (p2 : Int32) (p3 : Int32) (p4 : Int32) (p5 : Int32) (p6 : Int32)  : Met l y_M_signature w_M_signature { frames := 2, cells := 0, slots := 0, locals := 47 } (va_Pc [.ref (bd 0), .int p1, .int p2, .int p3, .int p4, .int p5, .int p6] (z_pre G (wM bd G st ++ wr) sz)) (z_Qi0 G (wM bd G st ++ wr) sz (wM bd G (m_signature st p1 p2 p3 p4 p5 p6).2 ++ wr) (m_signature st p1 p2 p3 p4 p5 p6).1) 0 0 (va_A (wM bd G st ++ wr) sz) := by
  refine Met.ofW (cc := b_M_signature) (maxL := 7) (ret := (some .int)) (by decide) rfl ?_
  intro p e s m args below meth c s₁ B hml hv
  obtain ⟨rfl, hsz, hP, hK, hD0, ham⟩ := hv
  subst hsz
  have hx := B.exec
  have hb := B.bytes
  have hr := B.returns
  have hts : ∀ w ∈ goT, w.before _ s = true := fun w h => atoms_spec (ws := w_M_signature) B.pre w (List.mem_cons_of_mem _ h)
  have hg : ∀ w, goB w = true → w.before _ s = true := fun w h => hts w (goI h)
  have hown : s.vm.findClass R_M = some m.cls := findClass_of_methodNamed B.named
  have hlocks := B.notSynchronized
  have h0 : z_st G (wM bd G st ++ wr) s := ⟨hK, ham⟩
  have hw : z_wl G (wM bd G st ++ wr) s (wM bd G st ++ wr) s.heap [] := z_0 hP hD0
  have hl := lv_entry ([.ref (bd 0), .int p1, .int p2, .int p3, .int p4, .int p5, .int p6]) (n := 7) (Nat.le_of_ble_eq_true rfl)
  rw [lg_entry_eq]
  generalize (lg_sl ([.ref (bd 0), .int p1, .int p2, .int p3, .int p4, .int p5, .int p6]) ++ List.replicate (7 - (lg_sl ([.ref (bd 0), .int p1, .int p2, .int p3, .int p4, .int p5, .int p6])).length) Slot.unset).toArray = ls at hl ⊢
  have hl : lv_has ls 7 [(0, .ref (bd 0)), (1, .int p1), (2, .int p2), (3, .int p3), (4, .int p4), (5, .int p5), (6, .int p6)] := hl
  refine lv_aload_n hx hb d_M_signature_0 rfl (lv_at hl 0 rfl) ?_
  refine lv_iconst (v := 0) hx hb d_M_signature_1 (by decide) ?_
  refine va_put (D := G.1) (ci := 3) (v := .int 0) (ty := .int) (C := R_M) (T := T_M) (N := 25) hx hb hts in_M ty_M ty_M_ok n_M hown h0.1 hw.1 hw.2.1 hw.2.2 0 rfl rfl 0 (by decide) (hg (.fieldLink R_M 54 "SecureEntryModel" "thrown" "I") (by decide +kernel)) (fun _ h9 => h9) rfl (by decide +kernel) rfl rfl (Nat.le_of_ble_eq_true rfl) d_M_signature_2 (fun H locs hP hD hS => ?_)
  have hw : z_wl G (wM bd G st ++ wr) s (wM bd G (mS st 0 0) ++ wr) H locs := ⟨hP, hD, hS⟩
  refine lv_iload_n hx hb d_M_signature_5 rfl (lv_at hl 1 rfl) ?_
  refine lv_iload_n hx hb d_M_signature_6 rfl (lv_at hl 2 rfl) ?_
  refine lv_iload_n hx hb d_M_signature_7 rfl (lv_at hl 3 rfl) ?_
  refine lv_iload hx hb d_M_signature_8 (lv_at hl 4 rfl) ?_
  refine lv_iload hx hb d_M_signature_10 (lv_at hl 5 rfl) ?_
  refine lv_iload hx hb d_M_signature_12 (lv_at hl 6 rfl) ?_
  refine z_Si0 (As := [.int p1, .int p2, .int p3, .int p4, .int p5, .int p6]) (v := (m_ranges p1 p2 p3 p4 p5 p6)) ⟨hx, hb, hml, hown, hts⟩ (c_M_ranges l G (wM bd G (mS st 0 0) ++ wr) _ p1 p2 p3 p4 p5 p6) (cwS 6 hts gS_M_73 rfl rfl rfl (by decide +kernel) ⟨Nat.le_of_ble_eq_true rfl, Nat.le_of_ble_eq_true rfl⟩) h0 hw rfl hl.1 rfl (Nat.le_of_ble_eq_true rfl) d_M_signature_14 ⟨Nat.le_of_ble_eq_true rfl, Nat.le_of_ble_eq_true rfl⟩ (fun H locs hw => ?_)
  refine lv_if_eq (tgt := 36) hx hb d_M_signature_17 (by decide) (fun c_17 => ?_) (fun c_17 => ?_)
  · refine lv_aload_n hx hb d_M_signature_36 rfl (lv_at hl 0 rfl) ?_
    refine lv_iconst (v := 1) hx hb d_M_signature_37 (by decide) ?_
    refine z_Vi0 (As := [.int 1]) (v := 0) (ws1 := (wM bd G (mS (mS st 0 0) 0 1) ++ wr)) ⟨hx, hb, hml, hown, hts⟩ (c_M_raise l G bd (mS st 0 0) wr _ 1) (cwV 1 hts gV_M_81 rfl rfl rfl (by decide +kernel) ⟨Nat.le_of_ble_eq_true rfl, Nat.le_of_ble_eq_true rfl⟩) h0 hw 0 rfl rfl rfl rfl hl.1 rfl (Nat.le_of_ble_eq_true rfl) d_M_signature_38 ⟨Nat.le_of_ble_eq_true rfl, Nat.le_of_ble_eq_true rfl⟩ (fun H locs hw => ?_)
    exact z_iret (wf := fun _ : Unit => (wM bd G (m_signature st p1 p2 p3 p4 p5 p6).2 ++ wr)) (post := fun r _ => r = (m_signature st p1 p2 p3 p4 p5 p6).1) (u := ()) hx hb hr hlocks h0 (by rw [m_signature, if_pos c_17]; exact hw) rfl (by rw [m_signature, if_pos c_17]) (Nat.le_of_ble_eq_true rfl) (Nat.le_of_ble_eq_true rfl) d_M_signature_41
  · have hp2 : vp_in p2 7 := rng_iss c_17
    refine lv_aload_n hx hb d_M_signature_20 rfl (lv_at hl 0 rfl) ?_
    refine lv_iload_n hx hb d_M_signature_21 rfl (lv_at hl 1 rfl) ?_
    refine lv_iload_n hx hb d_M_signature_22 rfl (lv_at hl 2 rfl) ?_
    refine lv_iload_n hx hb d_M_signature_23 rfl (lv_at hl 3 rfl) ?_
    refine lv_iload hx hb d_M_signature_24 (lv_at hl 4 rfl) ?_
    refine lv_iload hx hb d_M_signature_26 (lv_at hl 5 rfl) ?_
    refine lv_iload hx hb d_M_signature_28 (lv_at hl 6 rfl) ?_
    refine z_Vi0 (As := [.int p1, .int p2, .int p3, .int p4, .int p5, .int p6]) (v := (m_right (mS st 0 0) p1 p2 p3 p4 p5 p6)) ⟨hx, hb, hml, hown, hts⟩ (c_M_right l G bd (mS st 0 0) wr _ p1 p2 p3 p4 p5 p6 hp2) (cwV 6 hts gV_M_77 rfl rfl rfl (by decide +kernel) ⟨Nat.le_of_ble_eq_true rfl, Nat.le_of_ble_eq_true rfl⟩) h0 hw 0 rfl rfl rfl rfl hl.1 rfl (Nat.le_of_ble_eq_true rfl) d_M_signature_30 ⟨Nat.le_of_ble_eq_true rfl, Nat.le_of_ble_eq_true rfl⟩ (fun H locs hw => ?_)
    refine lv_goto (tgt := 41) hx hb d_M_signature_33 (by decide) ?_
    exact z_iret (wf := fun _ : Unit => (wM bd G (m_signature st p1 p2 p3 p4 p5 p6).2 ++ wr)) (post := fun r _ => r = (m_signature st p1 p2 p3 p4 p5 p6).1) (u := ()) hx hb hr hlocks h0 (by rw [m_signature, if_neg c_17]; exact hw) rfl (by rw [m_signature, if_neg c_17]) (Nat.le_of_ble_eq_true rfl) (Nat.le_of_ble_eq_true rfl) d_M_signature_41
set_option maxHeartbeats 4000000 in
set_option maxRecDepth 100000 in
theorem c_M_enrol (l : Launch) (G : gG) (bd : Nat → Nat) (st : MS) (wr : va_W) (sz : Nat) (p1 : Int32) (p2 : Int32)  : Met l y_M_enrol w_M_enrol { frames := 1, cells := 0, slots := 0, locals := 22 } (va_Pc [.ref (bd 0), .int p1, .int p2] (z_pre G (wM bd G st ++ wr) sz)) (z_Qi0 G (wM bd G st ++ wr) sz (wM bd G (m_enrol st p1 p2).2 ++ wr) (m_enrol st p1 p2).1) 0 0 (va_A (wM bd G st ++ wr) sz) := by
  refine Met.ofW (cc := b_M_enrol) (maxL := 4) (ret := (some .int)) (by decide) rfl ?_
  intro p e s m args below meth c s₁ B hml hv
  obtain ⟨rfl, hsz, hP, hK, hD0, ham⟩ := hv
  subst hsz
  have hx := B.exec
  have hb := B.bytes
  have hr := B.returns
  have hts : ∀ w ∈ goT, w.before _ s = true := fun w h => atoms_spec (ws := w_M_enrol) B.pre w (List.mem_cons_of_mem _ h)
  have hg : ∀ w, goB w = true → w.before _ s = true := fun w h => hts w (goI h)
  have hown : s.vm.findClass R_M = some m.cls := findClass_of_methodNamed B.named
  have hlocks := B.notSynchronized
  have h0 : z_st G (wM bd G st ++ wr) s := ⟨hK, ham⟩
  have hw : z_wl G (wM bd G st ++ wr) s (wM bd G st ++ wr) s.heap [] := z_0 hP hD0
  have hl := lv_entry ([.ref (bd 0), .int p1, .int p2]) (n := 4) (Nat.le_of_ble_eq_true rfl)
  rw [lg_entry_eq]
  generalize (lg_sl ([.ref (bd 0), .int p1, .int p2]) ++ List.replicate (4 - (lg_sl ([.ref (bd 0), .int p1, .int p2])).length) Slot.unset).toArray = ls at hl ⊢
  have hl : lv_has ls 4 [(0, .ref (bd 0)), (1, .int p1), (2, .int p2)] := hl
  refine lv_aload_n hx hb d_M_enrol_0 rfl (lv_at hl 0 rfl) ?_
  refine lv_iconst (v := 0) hx hb d_M_enrol_1 (by decide) ?_
  refine va_put (D := G.1) (ci := 3) (v := .int 0) (ty := .int) (C := R_M) (T := T_M) (N := 25) hx hb hts in_M ty_M ty_M_ok n_M hown h0.1 hw.1 hw.2.1 hw.2.2 0 rfl rfl 0 (by decide) (hg (.fieldLink R_M 54 "SecureEntryModel" "thrown" "I") (by decide +kernel)) (fun _ h9 => h9) rfl (by decide +kernel) rfl rfl (Nat.le_of_ble_eq_true rfl) d_M_enrol_2 (fun H locs hP hD hS => ?_)
  have hw : z_wl G (wM bd G st ++ wr) s (wM bd G (mS st 0 0) ++ wr) H locs := ⟨hP, hD, hS⟩
  refine lv_iload_n hx hb d_M_enrol_5 rfl (lv_at hl 1 rfl) ?_
  refine lv_iconst (v := 0) hx hb d_M_enrol_6 (by decide) ?_
  refine lv_iconst (v := 5) hx hb d_M_enrol_7 (by decide) ?_
  refine z_Si0 (As := [.int p1, .int 0, .int 5]) (v := (m_inn p1 0 5)) ⟨hx, hb, hml, hown, hts⟩ (c_M_in l G (wM bd G (mS st 0 0) ++ wr) _ p1 0 5) (cwS 3 hts gS_M_57 rfl rfl rfl (by decide +kernel) ⟨Nat.le_of_ble_eq_true rfl, Nat.le_of_ble_eq_true rfl⟩) h0 hw rfl hl.1 rfl (Nat.le_of_ble_eq_true rfl) d_M_enrol_8 ⟨Nat.le_of_ble_eq_true rfl, Nat.le_of_ble_eq_true rfl⟩ (fun H locs hw => ?_)
  refine lv_if_eq (tgt := 25) hx hb d_M_enrol_11 (by decide) (fun c_11 => ?_) (fun c_11 => ?_)
  · refine lv_aload_n hx hb d_M_enrol_25 rfl (lv_at hl 0 rfl) ?_
    refine lv_iconst (v := 1) hx hb d_M_enrol_26 (by decide) ?_
    refine z_Vi0 (As := [.int 1]) (v := 0) (ws1 := (wM bd G (mS (mS st 0 0) 0 1) ++ wr)) ⟨hx, hb, hml, hown, hts⟩ (c_M_raise l G bd (mS st 0 0) wr _ 1) (cwV 1 hts gV_M_81 rfl rfl rfl (by decide +kernel) ⟨Nat.le_of_ble_eq_true rfl, Nat.le_of_ble_eq_true rfl⟩) h0 hw 0 rfl rfl rfl rfl hl.1 rfl (Nat.le_of_ble_eq_true rfl) d_M_enrol_27 ⟨Nat.le_of_ble_eq_true rfl, Nat.le_of_ble_eq_true rfl⟩ (fun H locs hw => ?_)
    exact z_iret (wf := fun _ : Unit => (wM bd G (m_enrol st p1 p2).2 ++ wr)) (post := fun r _ => r = (m_enrol st p1 p2).1) (u := ()) hx hb hr hlocks h0 (by rw [m_enrol, if_pos c_11]; exact hw) rfl (by rw [m_enrol, if_pos c_11]) (Nat.le_of_ble_eq_true rfl) (Nat.le_of_ble_eq_true rfl) d_M_enrol_30
  · refine lv_iload_n hx hb d_M_enrol_14 rfl (lv_at hl 2 rfl) ?_
    refine lv_iconst (v := 0) hx hb d_M_enrol_15 (by decide) ?_
    refine lv_sipush (v := 9972) hx hb d_M_enrol_16 (by decide) ?_
    refine z_Si0 (As := [.int p2, .int 0, .int 9972]) (v := (m_inn p2 0 9972)) ⟨hx, hb, hml, hown, hts⟩ (c_M_in l G (wM bd G (mS st 0 0) ++ wr) _ p2 0 9972) (cwS 3 hts gS_M_57 rfl rfl rfl (by decide +kernel) ⟨Nat.le_of_ble_eq_true rfl, Nat.le_of_ble_eq_true rfl⟩) h0 hw rfl hl.1 rfl (Nat.le_of_ble_eq_true rfl) d_M_enrol_19 ⟨Nat.le_of_ble_eq_true rfl, Nat.le_of_ble_eq_true rfl⟩ (fun H locs hw => ?_)
    refine lv_if_ne (tgt := 31) hx hb d_M_enrol_22 (by decide) (fun c_22 => ?_) (fun c_22 => ?_)
    · have hp1 : vp_in p1 7 := minn_in c_11 (by decide)
      refine lv_aload_n hx hb d_M_enrol_31 rfl (lv_at hl 0 rfl) ?_
      refine va_get (D := G.1) (ci := 3) (v := .int (st.1 13)) (C := R_M) (T := T_M) (N := 25) hx hb hts in_M hown h0.1 hw.1 0 rfl rfl 13 (by decide) (hg (.fieldLink R_M 99 "SecureEntryModel" "up" "Z") (by decide +kernel)) (fun _ h9 => h9) rfl d_M_enrol_32 ?_
      refine lv_if_eq (tgt := 44) hx hb d_M_enrol_35 (by decide) (fun c_35 => ?_) (fun c_35 => ?_)
      · refine lv_aload_n hx hb d_M_enrol_44 rfl (lv_at hl 0 rfl) ?_
        refine va_get (D := G.1) (ci := 3) (v := .ref (bd 3)) (C := R_M) (T := T_M) (N := 25) hx hb hts in_M hown h0.1 hw.1 0 rfl rfl 3 (by decide) (hg (.fieldLink R_M 13 "SecureEntryModel" "keys" "[I") (by decide +kernel)) (fun _ h9 => h9) rfl d_M_enrol_45 ?_
        refine lv_iload_n hx hb d_M_enrol_48 rfl (lv_at hl 1 rfl) ?_
        refine va_iald (f := (st.2 3)) hx hb h0.1 hw.1 2 0 rfl rfl hp1 d_M_enrol_49 ?_
        refine lv_istore_n (lv' := [(3, .int ((st.2 3) p1.toNatClampNeg)), (0, .ref (bd 0)), (1, .int p1), (2, .int p2)]) hx hb d_M_enrol_50 rfl hl (by decide) rfl (fun ls hl => ?_)
        refine lv_aload_n hx hb d_M_enrol_51 rfl (lv_at hl 1 rfl) ?_
        refine va_get (D := G.1) (ci := 3) (v := .ref (bd 3)) (C := R_M) (T := T_M) (N := 25) hx hb hts in_M hown h0.1 hw.1 0 rfl rfl 3 (by decide) (hg (.fieldLink R_M 13 "SecureEntryModel" "keys" "[I") (by decide +kernel)) (fun _ h9 => h9) rfl d_M_enrol_52 ?_
        refine lv_iload_n hx hb d_M_enrol_55 rfl (lv_at hl 2 rfl) ?_
        refine lv_iload_n hx hb d_M_enrol_56 rfl (lv_at hl 3 rfl) ?_
        refine va_iast hx hb h0.1 hw.1 hw.2.1 hw.2.2 2 0 rfl rfl hp1 d_M_enrol_57 (fun H locs hP hD hS => ?_)
        have hw : z_wl G (wM bd G st ++ wr) s (wM bd G (mA (mS st 0 0) 3 (upd (st.2 3) p1.toNatClampNeg p2)) ++ wr) H locs := ⟨hP, hD, hS⟩
        refine lv_iload_n hx hb d_M_enrol_58 rfl (lv_at hl 0 rfl) ?_
        exact z_iret (wf := fun _ : Unit => (wM bd G (m_enrol st p1 p2).2 ++ wr)) (post := fun r _ => r = (m_enrol st p1 p2).1) (u := ()) hx hb hr hlocks h0 (by rw [m_enrol, if_neg c_11, if_neg c_22, if_pos c_35]; exact hw) rfl (by rw [m_enrol, if_neg c_11, if_neg c_22, if_pos c_35]) (Nat.le_of_ble_eq_true rfl) (Nat.le_of_ble_eq_true rfl) d_M_enrol_59
      · refine lv_aload_n hx hb d_M_enrol_38 rfl (lv_at hl 0 rfl) ?_
        refine lv_iconst (v := 2) hx hb d_M_enrol_39 (by decide) ?_
        refine z_Vi0 (As := [.int 2]) (v := 0) (ws1 := (wM bd G (mS (mS st 0 0) 0 2) ++ wr)) ⟨hx, hb, hml, hown, hts⟩ (c_M_raise l G bd (mS st 0 0) wr _ 2) (cwV 1 hts gV_M_81 rfl rfl rfl (by decide +kernel) ⟨Nat.le_of_ble_eq_true rfl, Nat.le_of_ble_eq_true rfl⟩) h0 hw 0 rfl rfl rfl rfl hl.1 rfl (Nat.le_of_ble_eq_true rfl) d_M_enrol_40 ⟨Nat.le_of_ble_eq_true rfl, Nat.le_of_ble_eq_true rfl⟩ (fun H locs hw => ?_)
        exact z_iret (wf := fun _ : Unit => (wM bd G (m_enrol st p1 p2).2 ++ wr)) (post := fun r _ => r = (m_enrol st p1 p2).1) (u := ()) hx hb hr hlocks h0 (by rw [m_enrol, if_neg c_11, if_neg c_22, if_neg c_35]; exact hw) rfl (by rw [m_enrol, if_neg c_11, if_neg c_22, if_neg c_35]) (Nat.le_of_ble_eq_true rfl) (Nat.le_of_ble_eq_true rfl) d_M_enrol_43
    · refine lv_aload_n hx hb d_M_enrol_25 rfl (lv_at hl 0 rfl) ?_
      refine lv_iconst (v := 1) hx hb d_M_enrol_26 (by decide) ?_
      refine z_Vi0 (As := [.int 1]) (v := 0) (ws1 := (wM bd G (mS (mS st 0 0) 0 1) ++ wr)) ⟨hx, hb, hml, hown, hts⟩ (c_M_raise l G bd (mS st 0 0) wr _ 1) (cwV 1 hts gV_M_81 rfl rfl rfl (by decide +kernel) ⟨Nat.le_of_ble_eq_true rfl, Nat.le_of_ble_eq_true rfl⟩) h0 hw 0 rfl rfl rfl rfl hl.1 rfl (Nat.le_of_ble_eq_true rfl) d_M_enrol_27 ⟨Nat.le_of_ble_eq_true rfl, Nat.le_of_ble_eq_true rfl⟩ (fun H locs hw => ?_)
      exact z_iret (wf := fun _ : Unit => (wM bd G (m_enrol st p1 p2).2 ++ wr)) (post := fun r _ => r = (m_enrol st p1 p2).1) (u := ()) hx hb hr hlocks h0 (by rw [m_enrol, if_neg c_11, if_pos c_22]; exact hw) rfl (by rw [m_enrol, if_neg c_11, if_pos c_22]) (Nat.le_of_ble_eq_true rfl) (Nat.le_of_ble_eq_true rfl) d_M_enrol_30

end MC
