section MC
set_option maxHeartbeats 4000000 in
set_option maxRecDepth 100000 in
theorem c_M_note (l : Launch) (G : gG) (bd : Nat → Nat) (st : MS) (wr : va_W) (sz : Nat) (p1 : Int32) (p2 : Int32) (hI : InvM st) (hp2 : tokOK p2) : Met l y_M_note w_M_note { frames := 1, cells := 0, slots := 0, locals := 23 } (va_Pc [.ref (bd 0), .int p1, .int p2] (z_pre G (wM bd G st ++ wr) sz)) (z_Qv0 G (wM bd G st ++ wr) sz (wM bd G (m_note st p1 p2) ++ wr)) 0 0 (va_A (wM bd G st ++ wr) sz) := by
  refine Met.ofW (cc := b_M_note) (maxL := 3) (ret := none) (by decide) rfl ?_
  intro p e s m args below meth c s₁ B hml hv
  obtain ⟨rfl, hsz, hP, hK, hD0, ham⟩ := hv
  subst hsz
  have hx := B.exec
  have hb := B.bytes
  have hr := B.returns
  have hts : ∀ w ∈ goT, w.before _ s = true := fun w h => atoms_spec (ws := w_M_note) B.pre w (List.mem_cons_of_mem _ h)
  have hg : ∀ w, goB w = true → w.before _ s = true := fun w h => hts w (goI h)
  have hown : s.vm.findClass R_M = some m.cls := findClass_of_methodNamed B.named
  have hlocks := B.notSynchronized
  have h0 : z_st G (wM bd G st ++ wr) s := ⟨hK, ham⟩
  have hw : z_wl G (wM bd G st ++ wr) s (wM bd G st ++ wr) s.heap [] := z_0 hP hD0
  have hl := lv_entry ([.ref (bd 0), .int p1, .int p2]) (n := 3) (Nat.le_of_ble_eq_true rfl)
  rw [lg_entry_eq]
  generalize (lg_sl ([.ref (bd 0), .int p1, .int p2]) ++ List.replicate (3 - (lg_sl ([.ref (bd 0), .int p1, .int p2])).length) Slot.unset).toArray = ls at hl ⊢
  have hl : lv_has ls 3 [(0, .ref (bd 0)), (1, .int p1), (2, .int p2)] := hl
  refine lv_aload_n hx hb d_M_note_0 rfl (lv_at hl 0 rfl) ?_
  refine lv_iload_n hx hb d_M_note_1 rfl (lv_at hl 1 rfl) ?_
  refine lv_iload_n hx hb d_M_note_2 rfl (lv_at hl 2 rfl) ?_
  refine lv_if_lt (tgt := 28) hx hb d_M_note_3 (by decide) (fun c_3 => ?_) (fun c_3 => ?_)
  · refine lv_iconst (v := (-1)) hx hb d_M_note_28 (by decide) ?_
    refine z_Vv0 (As := [.int p1, .int (-1)]) (ws1 := (wM bd G (m_log st p1 (-1)) ++ wr)) ⟨hx, hb, hml, hown, hts⟩ (c_M_log l G bd st wr _ p1 (-1) hI) (cwV 2 hts gV_M_109 rfl rfl rfl (by decide +kernel) ⟨Nat.le_of_ble_eq_true rfl, Nat.le_of_ble_eq_true rfl⟩) h0 hw 0 rfl rfl rfl rfl hl.1 rfl (Nat.le_of_ble_eq_true rfl) d_M_note_29 ⟨Nat.le_of_ble_eq_true rfl, Nat.le_of_ble_eq_true rfl⟩ (fun H locs hw => ?_)
    have hI : InvM (m_log st p1 (-1)) := inv_m_log hI
    exact z_vret (wf := fun _ : Unit => (wM bd G (m_note st p1 p2) ++ wr)) (u := ()) hx hb hr hlocks h0 (by rw [m_note, if_pos c_3]; exact hw) trivial (Nat.le_of_ble_eq_true rfl) (Nat.le_of_ble_eq_true rfl) d_M_note_32
  · have ht : vp_in p2 6 := tok_ge hp2 c_3
    refine lv_aload_n hx hb d_M_note_6 rfl (lv_at hl 0 rfl) ?_
    refine va_get (D := G.1) (ci := 3) (v := .ref (bd 4)) (C := R_M) (T := T_M) (N := 25) hx hb hts in_M hown h0.1 hw.1 0 rfl rfl 4 (by decide) (hg (.fieldLink R_M 16 "SecureEntryModel" "has" "[Z") (by decide +kernel)) (fun _ h9 => h9) rfl d_M_note_7 ?_
    refine lv_iconst (v := 4) hx hb d_M_note_10 (by decide) ?_
    refine lv_iload_n hx hb d_M_note_11 rfl (lv_at hl 2 rfl) ?_
    refine lv_imul hx hb d_M_note_12 ?_
    refine va_zald (f := (st.2 4)) hx hb h0.1 hw.1 3 3 rfl rfl (z_m0 ht) d_M_note_13 ?_
    refine lv_if_eq (tgt := 28) hx hb d_M_note_14 (by decide) (fun c_14 => ?_) (fun c_14 => ?_)
    · refine lv_iconst (v := (-1)) hx hb d_M_note_28 (by decide) ?_
      refine z_Vv0 (As := [.int p1, .int (-1)]) (ws1 := (wM bd G (m_log st p1 (-1)) ++ wr)) ⟨hx, hb, hml, hown, hts⟩ (c_M_log l G bd st wr _ p1 (-1) hI) (cwV 2 hts gV_M_109 rfl rfl rfl (by decide +kernel) ⟨Nat.le_of_ble_eq_true rfl, Nat.le_of_ble_eq_true rfl⟩) h0 hw 0 rfl rfl rfl rfl hl.1 rfl (Nat.le_of_ble_eq_true rfl) d_M_note_29 ⟨Nat.le_of_ble_eq_true rfl, Nat.le_of_ble_eq_true rfl⟩ (fun H locs hw => ?_)
      have hI : InvM (m_log st p1 (-1)) := inv_m_log hI
      exact z_vret (wf := fun _ : Unit => (wM bd G (m_note st p1 p2) ++ wr)) (u := ()) hx hb hr hlocks h0 (by rw [m_note, if_neg c_3, if_pos c_14]; exact hw) trivial (Nat.le_of_ble_eq_true rfl) (Nat.le_of_ble_eq_true rfl) d_M_note_32
    · refine lv_aload_n hx hb d_M_note_17 rfl (lv_at hl 0 rfl) ?_
      refine va_get (D := G.1) (ci := 3) (v := .ref (bd 6)) (C := R_M) (T := T_M) (N := 25) hx hb hts in_M hown h0.1 hw.1 0 rfl rfl 6 (by decide) (hg (.fieldLink R_M 23 "SecureEntryModel" "holder" "[I") (by decide +kernel)) (fun _ h9 => h9) rfl d_M_note_18 ?_
      refine lv_iconst (v := 4) hx hb d_M_note_21 (by decide) ?_
      refine lv_iload_n hx hb d_M_note_22 rfl (lv_at hl 2 rfl) ?_
      refine lv_imul hx hb d_M_note_23 ?_
      refine va_iald (f := (st.2 6)) hx hb h0.1 hw.1 5 0 rfl rfl (z_m0 ht) d_M_note_24 ?_
      refine lv_goto (tgt := 29) hx hb d_M_note_25 (by decide) ?_
      refine z_Vv0 (As := [.int p1, .int ((st.2 6) (4 * p2).toNatClampNeg)]) (ws1 := (wM bd G (m_log st p1 ((st.2 6) (4 * p2).toNatClampNeg)) ++ wr)) ⟨hx, hb, hml, hown, hts⟩ (c_M_log l G bd st wr _ p1 ((st.2 6) (4 * p2).toNatClampNeg) hI) (cwV 2 hts gV_M_109 rfl rfl rfl (by decide +kernel) ⟨Nat.le_of_ble_eq_true rfl, Nat.le_of_ble_eq_true rfl⟩) h0 hw 0 rfl rfl rfl rfl hl.1 rfl (Nat.le_of_ble_eq_true rfl) d_M_note_29 ⟨Nat.le_of_ble_eq_true rfl, Nat.le_of_ble_eq_true rfl⟩ (fun H locs hw => ?_)
      have hI : InvM (m_log st p1 ((st.2 6) (4 * p2).toNatClampNeg)) := inv_m_log hI
      exact z_vret (wf := fun _ : Unit => (wM bd G (m_note st p1 p2) ++ wr)) (u := ()) hx hb hr hlocks h0 (by rw [m_note, if_neg c_3, if_neg c_14]; exact hw) trivial (Nat.le_of_ble_eq_true rfl) (Nat.le_of_ble_eq_true rfl) d_M_note_32
set_option maxHeartbeats 4000000 in
set_option maxRecDepth 100000 in
theorem c_M_certify (l : Launch) (G : gG) (bd : Nat → Nat) (st : MS) (wr : va_W) (sz : Nat) (p1 : Int32) (p2 : Int32) (p3 : Int32) (p4 : Int32) (p5 : Int32) (p6 : Int32) (p7 : Int32) (p8 : Int32) (hI : InvM st) : Met l y_M_certify w_M_certify { frames := 2, cells := 0, slots := 0, locals := 54 } (va_Pc [.ref (bd 0), .int p1, .int p2, .int p3, .int p4, .int p5, .int p6, .int p7, .int p8] (z_pre G (wM bd G st ++ wr) sz)) (z_Qi0 G (wM bd G st ++ wr) sz (wM bd G (m_certify st p1 p2 p3 p4 p5 p6 p7 p8).2 ++ wr) (m_certify st p1 p2 p3 p4 p5 p6 p7 p8).1) 0 0 (va_A (wM bd G st ++ wr) sz) := by
  refine Met.ofW (cc := b_M_certify) (maxL := 11) (ret := (some .int)) (by decide) rfl ?_
  intro p e s m args below meth c s₁ B hml hv
  obtain ⟨rfl, hsz, hP, hK, hD0, ham⟩ := hv
  subst hsz
  have hx := B.exec
  have hb := B.bytes
  have hr := B.returns
  have hts : ∀ w ∈ goT, w.before _ s = true := fun w h => atoms_spec (ws := w_M_certify) B.pre w (List.mem_cons_of_mem _ h)
  have hg : ∀ w, goB w = true → w.before _ s = true := fun w h => hts w (goI h)
  have hown : s.vm.findClass R_M = some m.cls := findClass_of_methodNamed B.named
  have hlocks := B.notSynchronized
  have h0 : z_st G (wM bd G st ++ wr) s := ⟨hK, ham⟩
  have hw : z_wl G (wM bd G st ++ wr) s (wM bd G st ++ wr) s.heap [] := z_0 hP hD0
  have hl := lv_entry ([.ref (bd 0), .int p1, .int p2, .int p3, .int p4, .int p5, .int p6, .int p7, .int p8]) (n := 11) (Nat.le_of_ble_eq_true rfl)
  rw [lg_entry_eq]
  generalize (lg_sl ([.ref (bd 0), .int p1, .int p2, .int p3, .int p4, .int p5, .int p6, .int p7, .int p8]) ++ List.replicate (11 - (lg_sl ([.ref (bd 0), .int p1, .int p2, .int p3, .int p4, .int p5, .int p6, .int p7, .int p8])).length) Slot.unset).toArray = ls at hl ⊢
  have hl : lv_has ls 11 [(0, .ref (bd 0)), (1, .int p1), (2, .int p2), (3, .int p3), (4, .int p4), (5, .int p5), (6, .int p6), (7, .int p7), (8, .int p8)] := hl
  refine lv_aload_n hx hb d_M_certify_0 rfl (lv_at hl 0 rfl) ?_
  refine lv_iconst (v := 0) hx hb d_M_certify_1 (by decide) ?_
  refine va_put (D := G.1) (ci := 3) (v := .int 0) (ty := .int) (C := R_M) (T := T_M) (N := 25) hx hb hts in_M ty_M ty_M_ok n_M hown h0.1 hw.1 hw.2.1 hw.2.2 0 rfl rfl 0 (by decide) (hg (.fieldLink R_M 54 "SecureEntryModel" "thrown" "I") (by decide +kernel)) (fun _ h9 => h9) rfl (by decide +kernel) rfl rfl (Nat.le_of_ble_eq_true rfl) d_M_certify_2 (fun H locs hP hD hS => ?_)
  have hI : InvM (mS st 0 0) := invm_mS hI (by decide)
  have hw : z_wl G (wM bd G st ++ wr) s (wM bd G (mS st 0 0) ++ wr) H locs := ⟨hP, hD, hS⟩
  refine lv_iload_n hx hb d_M_certify_5 rfl (lv_at hl 1 rfl) ?_
  refine lv_iconst (v := 0) hx hb d_M_certify_6 (by decide) ?_
  refine lv_iconst (v := 5) hx hb d_M_certify_7 (by decide) ?_
  refine z_Si0 (As := [.int p1, .int 0, .int 5]) (v := (m_inn p1 0 5)) ⟨hx, hb, hml, hown, hts⟩ (c_M_in l G (wM bd G (mS st 0 0) ++ wr) _ p1 0 5) (cwS 3 hts gS_M_57 rfl rfl rfl (by decide +kernel) ⟨Nat.le_of_ble_eq_true rfl, Nat.le_of_ble_eq_true rfl⟩) h0 hw rfl hl.1 rfl (Nat.le_of_ble_eq_true rfl) d_M_certify_8 ⟨Nat.le_of_ble_eq_true rfl, Nat.le_of_ble_eq_true rfl⟩ (fun H locs hw => ?_)
  refine lv_if_ne (tgt := 20) hx hb d_M_certify_11 (by decide) (fun c_11 => ?_) (fun c_11 => ?_)
  · have hp1 : vp_in p1 6 := minn_in c_11 (by decide)
    refine lv_iload_n hx hb d_M_certify_20 rfl (lv_at hl 2 rfl) ?_
    refine lv_iload_n hx hb d_M_certify_21 rfl (lv_at hl 3 rfl) ?_
    refine lv_iload hx hb d_M_certify_22 (lv_at hl 4 rfl) ?_
    refine lv_iload hx hb d_M_certify_24 (lv_at hl 5 rfl) ?_
    refine lv_iload hx hb d_M_certify_26 (lv_at hl 6 rfl) ?_
    refine lv_iload hx hb d_M_certify_28 (lv_at hl 7 rfl) ?_
    refine z_Si0 (As := [.int p2, .int p3, .int p4, .int p5, .int p6, .int p7]) (v := (m_ranges p2 p3 p4 p5 p6 p7)) ⟨hx, hb, hml, hown, hts⟩ (c_M_ranges l G (wM bd G (mS st 0 0) ++ wr) _ p2 p3 p4 p5 p6 p7) (cwS 6 hts gS_M_73 rfl rfl rfl (by decide +kernel) ⟨Nat.le_of_ble_eq_true rfl, Nat.le_of_ble_eq_true rfl⟩) h0 hw rfl hl.1 rfl (Nat.le_of_ble_eq_true rfl) d_M_certify_30 ⟨Nat.le_of_ble_eq_true rfl, Nat.le_of_ble_eq_true rfl⟩ (fun H locs hw => ?_)
    refine lv_if_eq (tgt := 48) hx hb d_M_certify_33 (by decide) (fun c_33 => ?_) (fun c_33 => ?_)
    · refine lv_aload_n hx hb d_M_certify_48 rfl (lv_at hl 0 rfl) ?_
      refine lv_iconst (v := 2) hx hb d_M_certify_49 (by decide) ?_
      refine z_Vi0 (As := [.int 2]) (v := 0) (ws1 := (wM bd G (mS (mS st 0 0) 0 2) ++ wr)) ⟨hx, hb, hml, hown, hts⟩ (c_M_raise l G bd (mS st 0 0) wr _ 2) (cwV 1 hts gV_M_81 rfl rfl rfl (by decide +kernel) ⟨Nat.le_of_ble_eq_true rfl, Nat.le_of_ble_eq_true rfl⟩) h0 hw 0 rfl rfl rfl rfl hl.1 rfl (Nat.le_of_ble_eq_true rfl) d_M_certify_50 ⟨Nat.le_of_ble_eq_true rfl, Nat.le_of_ble_eq_true rfl⟩ (fun H locs hw => ?_)
      have hI : InvM (mS (mS st 0 0) 0 2) := invm_mS hI (by decide)
      exact z_iret (wf := fun _ : Unit => (wM bd G (m_certify st p1 p2 p3 p4 p5 p6 p7 p8).2 ++ wr)) (post := fun r _ => r = (m_certify st p1 p2 p3 p4 p5 p6 p7 p8).1) (u := ()) hx hb hr hlocks h0 (by rw [m_certify, if_neg c_11, if_pos c_33]; exact hw) rfl (by rw [m_certify, if_neg c_11, if_pos c_33]) (Nat.le_of_ble_eq_true rfl) (Nat.le_of_ble_eq_true rfl) d_M_certify_53
    · refine lv_iload hx hb d_M_certify_36 (lv_at hl 8 rfl) ?_
      refine lv_iconst (v := 0) hx hb d_M_certify_38 (by decide) ?_
      refine lv_sipush (v := 9972) hx hb d_M_certify_39 (by decide) ?_
      refine z_Si0 (As := [.int p8, .int 0, .int 9972]) (v := (m_inn p8 0 9972)) ⟨hx, hb, hml, hown, hts⟩ (c_M_in l G (wM bd G (mS st 0 0) ++ wr) _ p8 0 9972) (cwS 3 hts gS_M_57 rfl rfl rfl (by decide +kernel) ⟨Nat.le_of_ble_eq_true rfl, Nat.le_of_ble_eq_true rfl⟩) h0 hw rfl hl.1 rfl (Nat.le_of_ble_eq_true rfl) d_M_certify_42 ⟨Nat.le_of_ble_eq_true rfl, Nat.le_of_ble_eq_true rfl⟩ (fun H locs hw => ?_)
      refine lv_if_ne (tgt := 54) hx hb d_M_certify_45 (by decide) (fun c_45 => ?_) (fun c_45 => ?_)
      · have hp2 : vp_in p2 4 := rng_kind c_33
        have hp3 : vp_in p3 7 := rng_iss c_33
        have hc : vp_in ((4 * p1) + p2) 24 := z_mx hp1 hp2
        refine lv_aload_n hx hb d_M_certify_54 rfl (lv_at hl 0 rfl) ?_
        refine lv_iload_n hx hb d_M_certify_55 rfl (lv_at hl 1 rfl) ?_
        refine z_Vi0 (As := [.int p1]) (v := (m_read (mS st 0 0) p1)) ⟨hx, hb, hml, hown, hts⟩ (c_M_read l G bd (mS st 0 0) wr _ p1) (cwV 1 hts gV_M_85 rfl rfl rfl (by decide +kernel) ⟨Nat.le_of_ble_eq_true rfl, Nat.le_of_ble_eq_true rfl⟩) h0 hw 0 rfl rfl rfl rfl hl.1 rfl (Nat.le_of_ble_eq_true rfl) d_M_certify_56 ⟨Nat.le_of_ble_eq_true rfl, Nat.le_of_ble_eq_true rfl⟩ (fun H locs hw => ?_)
        refine lv_if_eq (tgt := 68) hx hb d_M_certify_59 (by decide) (fun c_59 => ?_) (fun c_59 => ?_)
        · refine lv_iconst (v := 4) hx hb d_M_certify_68 (by decide) ?_
          refine lv_iload_n hx hb d_M_certify_69 rfl (lv_at hl 1 rfl) ?_
          refine lv_imul hx hb d_M_certify_70 ?_
          refine lv_iload_n hx hb d_M_certify_71 rfl (lv_at hl 2 rfl) ?_
          refine lv_iadd hx hb d_M_certify_72 ?_
          refine lv_istore (lv' := [(9, .int ((4 * p1) + p2)), (0, .ref (bd 0)), (1, .int p1), (2, .int p2), (3, .int p3), (4, .int p4), (5, .int p5), (6, .int p6), (7, .int p7), (8, .int p8)]) hx hb d_M_certify_73 hl (by decide) rfl (fun ls hl => ?_)
          refine lv_aload_n hx hb d_M_certify_75 rfl (lv_at hl 1 rfl) ?_
          refine va_get (D := G.1) (ci := 3) (v := .ref (bd 4)) (C := R_M) (T := T_M) (N := 25) hx hb hts in_M hown h0.1 hw.1 0 rfl rfl 4 (by decide) (hg (.fieldLink R_M 16 "SecureEntryModel" "has" "[Z") (by decide +kernel)) (fun _ h9 => h9) rfl d_M_certify_76 ?_
          refine lv_iload hx hb d_M_certify_79 (lv_at hl 0 rfl) ?_
          refine va_zald (f := (st.2 4)) hx hb h0.1 hw.1 3 3 rfl rfl hc d_M_certify_81 ?_
          refine lv_istore (lv' := [(10, .int ((st.2 4) ((4 * p1) + p2).toNatClampNeg)), (9, .int ((4 * p1) + p2)), (0, .ref (bd 0)), (1, .int p1), (2, .int p2), (3, .int p3), (4, .int p4), (5, .int p5), (6, .int p6), (7, .int p7), (8, .int p8)]) hx hb d_M_certify_82 hl (by decide) rfl (fun ls hl => ?_)
          refine lv_aload_n hx hb d_M_certify_84 rfl (lv_at hl 2 rfl) ?_
          refine lv_iload hx hb d_M_certify_85 (lv_at hl 1 rfl) ?_
          refine lv_iload_n hx hb d_M_certify_87 rfl (lv_at hl 5 rfl) ?_
          refine lv_iload hx hb d_M_certify_88 (lv_at hl 6 rfl) ?_
          refine lv_iload hx hb d_M_certify_90 (lv_at hl 7 rfl) ?_
          refine lv_iload hx hb d_M_certify_92 (lv_at hl 8 rfl) ?_
          refine lv_iload hx hb d_M_certify_94 (lv_at hl 9 rfl) ?_
          refine z_Vv0 (As := [.int ((4 * p1) + p2), .int p3, .int p4, .int p5, .int p6, .int p7]) (ws1 := (wM bd G (m_put (mS st 0 0) ((4 * p1) + p2) p3 p4 p5 p6 p7) ++ wr)) ⟨hx, hb, hml, hown, hts⟩ (c_M_put l G bd (mS st 0 0) wr _ ((4 * p1) + p2) p3 p4 p5 p6 p7 hc hp3) (cwV 6 hts gV_M_89 rfl rfl rfl (by decide +kernel) ⟨Nat.le_of_ble_eq_true rfl, Nat.le_of_ble_eq_true rfl⟩) h0 hw 0 rfl rfl rfl rfl hl.1 rfl (Nat.le_of_ble_eq_true rfl) d_M_certify_96 ⟨Nat.le_of_ble_eq_true rfl, Nat.le_of_ble_eq_true rfl⟩ (fun H locs hw => ?_)
          have hI : InvM (m_put (mS st 0 0) ((4 * p1) + p2) p3 p4 p5 p6 p7) := inv_m_put hI (by first | assumption | exact hI.2.2.1 | exact hI.2.2.2 | (unfold vp_in; decide) | exact Or.inr (by assumption) | exact z_m0 (by assumption) | exact z_m1 (by assumption) | exact z_m2 (by assumption) | exact z_m3 (by assumption) | exact hI.1 _ (z_cl (by assumption)))
          refine lv_aload_n hx hb d_M_certify_99 rfl (lv_at hl 2 rfl) ?_
          refine va_get (D := G.1) (ci := 3) (v := .ref (bd 10)) (C := R_M) (T := T_M) (N := 25) hx hb hts in_M hown h0.1 hw.1 0 rfl rfl 10 (by decide) (hg (.fieldLink R_M 35 "SecureEntryModel" "sign" "[I") (by decide +kernel)) (fun _ h9 => h9) rfl d_M_certify_100 ?_
          refine lv_iload hx hb d_M_certify_103 (lv_at hl 1 rfl) ?_
          refine lv_iload hx hb d_M_certify_105 (lv_at hl 10 rfl) ?_
          refine va_iast hx hb h0.1 hw.1 hw.2.1 hw.2.2 9 0 rfl rfl hc d_M_certify_107 (fun H locs hP hD hS => ?_)
          have hI : InvM (mA (m_put (mS st 0 0) ((4 * p1) + p2) p3 p4 p5 p6 p7) 10 (upd ((m_put (mS st 0 0) ((4 * p1) + p2) p3 p4 p5 p6 p7).2 10) ((4 * p1) + p2).toNatClampNeg p8)) := invm_mA hI (by decide)
          have hw : z_wl G (wM bd G st ++ wr) s (wM bd G (mA (m_put (mS st 0 0) ((4 * p1) + p2) p3 p4 p5 p6 p7) 10 (upd ((m_put (mS st 0 0) ((4 * p1) + p2) p3 p4 p5 p6 p7).2 10) ((4 * p1) + p2).toNatClampNeg p8)) ++ wr) H locs := ⟨hP, hD, hS⟩
          refine lv_iload hx hb d_M_certify_108 (lv_at hl 0 rfl) ?_
          refine lv_if_eq (tgt := 117) hx hb d_M_certify_110 (by decide) (fun c_110 => ?_) (fun c_110 => ?_)
          · refine lv_iconst (v := 1) hx hb d_M_certify_117 (by decide) ?_
            exact z_iret (wf := fun _ : Unit => (wM bd G (m_certify st p1 p2 p3 p4 p5 p6 p7 p8).2 ++ wr)) (post := fun r _ => r = (m_certify st p1 p2 p3 p4 p5 p6 p7 p8).1) (u := ()) hx hb hr hlocks h0 (by rw [m_certify, if_neg c_11, if_neg c_33, if_neg c_45, if_pos c_59, if_pos c_110]; exact hw) rfl (by rw [m_certify, if_neg c_11, if_neg c_33, if_neg c_45, if_pos c_59, if_pos c_110]) (Nat.le_of_ble_eq_true rfl) (Nat.le_of_ble_eq_true rfl) d_M_certify_118
          · refine lv_iconst (v := 0) hx hb d_M_certify_113 (by decide) ?_
            refine lv_goto (tgt := 118) hx hb d_M_certify_114 (by decide) ?_
            exact z_iret (wf := fun _ : Unit => (wM bd G (m_certify st p1 p2 p3 p4 p5 p6 p7 p8).2 ++ wr)) (post := fun r _ => r = (m_certify st p1 p2 p3 p4 p5 p6 p7 p8).1) (u := ()) hx hb hr hlocks h0 (by rw [m_certify, if_neg c_11, if_neg c_33, if_neg c_45, if_pos c_59, if_neg c_110]; exact hw) rfl (by rw [m_certify, if_neg c_11, if_neg c_33, if_neg c_45, if_pos c_59, if_neg c_110]) (Nat.le_of_ble_eq_true rfl) (Nat.le_of_ble_eq_true rfl) d_M_certify_118
        · refine lv_aload_n hx hb d_M_certify_62 rfl (lv_at hl 0 rfl) ?_
          refine lv_iconst (v := 3) hx hb d_M_certify_63 (by decide) ?_
          refine z_Vi0 (As := [.int 3]) (v := 0) (ws1 := (wM bd G (mS (mS st 0 0) 0 3) ++ wr)) ⟨hx, hb, hml, hown, hts⟩ (c_M_raise l G bd (mS st 0 0) wr _ 3) (cwV 1 hts gV_M_81 rfl rfl rfl (by decide +kernel) ⟨Nat.le_of_ble_eq_true rfl, Nat.le_of_ble_eq_true rfl⟩) h0 hw 0 rfl rfl rfl rfl hl.1 rfl (Nat.le_of_ble_eq_true rfl) d_M_certify_64 ⟨Nat.le_of_ble_eq_true rfl, Nat.le_of_ble_eq_true rfl⟩ (fun H locs hw => ?_)
          have hI : InvM (mS (mS st 0 0) 0 3) := invm_mS hI (by decide)
          exact z_iret (wf := fun _ : Unit => (wM bd G (m_certify st p1 p2 p3 p4 p5 p6 p7 p8).2 ++ wr)) (post := fun r _ => r = (m_certify st p1 p2 p3 p4 p5 p6 p7 p8).1) (u := ()) hx hb hr hlocks h0 (by rw [m_certify, if_neg c_11, if_neg c_33, if_neg c_45, if_neg c_59]; exact hw) rfl (by rw [m_certify, if_neg c_11, if_neg c_33, if_neg c_45, if_neg c_59]) (Nat.le_of_ble_eq_true rfl) (Nat.le_of_ble_eq_true rfl) d_M_certify_67
      · refine lv_aload_n hx hb d_M_certify_48 rfl (lv_at hl 0 rfl) ?_
        refine lv_iconst (v := 2) hx hb d_M_certify_49 (by decide) ?_
        refine z_Vi0 (As := [.int 2]) (v := 0) (ws1 := (wM bd G (mS (mS st 0 0) 0 2) ++ wr)) ⟨hx, hb, hml, hown, hts⟩ (c_M_raise l G bd (mS st 0 0) wr _ 2) (cwV 1 hts gV_M_81 rfl rfl rfl (by decide +kernel) ⟨Nat.le_of_ble_eq_true rfl, Nat.le_of_ble_eq_true rfl⟩) h0 hw 0 rfl rfl rfl rfl hl.1 rfl (Nat.le_of_ble_eq_true rfl) d_M_certify_50 ⟨Nat.le_of_ble_eq_true rfl, Nat.le_of_ble_eq_true rfl⟩ (fun H locs hw => ?_)
        have hI : InvM (mS (mS st 0 0) 0 2) := invm_mS hI (by decide)
        exact z_iret (wf := fun _ : Unit => (wM bd G (m_certify st p1 p2 p3 p4 p5 p6 p7 p8).2 ++ wr)) (post := fun r _ => r = (m_certify st p1 p2 p3 p4 p5 p6 p7 p8).1) (u := ()) hx hb hr hlocks h0 (by rw [m_certify, if_neg c_11, if_neg c_33, if_pos c_45]; exact hw) rfl (by rw [m_certify, if_neg c_11, if_neg c_33, if_pos c_45]) (Nat.le_of_ble_eq_true rfl) (Nat.le_of_ble_eq_true rfl) d_M_certify_53
  · refine lv_aload_n hx hb d_M_certify_14 rfl (lv_at hl 0 rfl) ?_
    refine lv_iconst (v := 1) hx hb d_M_certify_15 (by decide) ?_
    refine z_Vi0 (As := [.int 1]) (v := 0) (ws1 := (wM bd G (mS (mS st 0 0) 0 1) ++ wr)) ⟨hx, hb, hml, hown, hts⟩ (c_M_raise l G bd (mS st 0 0) wr _ 1) (cwV 1 hts gV_M_81 rfl rfl rfl (by decide +kernel) ⟨Nat.le_of_ble_eq_true rfl, Nat.le_of_ble_eq_true rfl⟩) h0 hw 0 rfl rfl rfl rfl hl.1 rfl (Nat.le_of_ble_eq_true rfl) d_M_certify_16 ⟨Nat.le_of_ble_eq_true rfl, Nat.le_of_ble_eq_true rfl⟩ (fun H locs hw => ?_)
    have hI : InvM (mS (mS st 0 0) 0 1) := invm_mS hI (by decide)
    exact z_iret (wf := fun _ : Unit => (wM bd G (m_certify st p1 p2 p3 p4 p5 p6 p7 p8).2 ++ wr)) (post := fun r _ => r = (m_certify st p1 p2 p3 p4 p5 p6 p7 p8).1) (u := ()) hx hb hr hlocks h0 (by rw [m_certify, if_pos c_11]; exact hw) rfl (by rw [m_certify, if_pos c_11]) (Nat.le_of_ble_eq_true rfl) (Nat.le_of_ble_eq_true rfl) d_M_certify_19
set_option maxHeartbeats 4000000 in
set_option maxRecDepth 100000 in
theorem c_M_insert (l : Launch) (G : gG) (bd : Nat → Nat) (st : MS) (wr : va_W) (sz : Nat) (p1 : Int32) (hI : InvM st) : Met l y_M_insert w_M_insert { frames := 3, cells := 0, slots := 0, locals := 71 } (va_Pc [.ref (bd 0), .int p1] (z_pre G (wM bd G st ++ wr) sz)) (z_Qi0 G (wM bd G st ++ wr) sz (wM bd G (m_insert st p1).2 ++ wr) (m_insert st p1).1) 0 0 (va_A (wM bd G st ++ wr) sz) := by
  refine Met.ofW (cc := b_M_insert) (maxL := 2) (ret := (some .int)) (by decide) rfl ?_
  intro p e s m args below meth c s₁ B hml hv
  obtain ⟨rfl, hsz, hP, hK, hD0, ham⟩ := hv
  subst hsz
  have hx := B.exec
  have hb := B.bytes
  have hr := B.returns
  have hts : ∀ w ∈ goT, w.before _ s = true := fun w h => atoms_spec (ws := w_M_insert) B.pre w (List.mem_cons_of_mem _ h)
  have hg : ∀ w, goB w = true → w.before _ s = true := fun w h => hts w (goI h)
  have hown : s.vm.findClass R_M = some m.cls := findClass_of_methodNamed B.named
  have hlocks := B.notSynchronized
  have h0 : z_st G (wM bd G st ++ wr) s := ⟨hK, ham⟩
  have hw : z_wl G (wM bd G st ++ wr) s (wM bd G st ++ wr) s.heap [] := z_0 hP hD0
  have hl := lv_entry ([.ref (bd 0), .int p1]) (n := 2) (Nat.le_of_ble_eq_true rfl)
  rw [lg_entry_eq]
  generalize (lg_sl ([.ref (bd 0), .int p1]) ++ List.replicate (2 - (lg_sl ([.ref (bd 0), .int p1])).length) Slot.unset).toArray = ls at hl ⊢
  have hl : lv_has ls 2 [(0, .ref (bd 0)), (1, .int p1)] := hl
  refine lv_aload_n hx hb d_M_insert_0 rfl (lv_at hl 0 rfl) ?_
  refine lv_iconst (v := 0) hx hb d_M_insert_1 (by decide) ?_
  refine va_put (D := G.1) (ci := 3) (v := .int 0) (ty := .int) (C := R_M) (T := T_M) (N := 25) hx hb hts in_M ty_M ty_M_ok n_M hown h0.1 hw.1 hw.2.1 hw.2.2 0 rfl rfl 0 (by decide) (hg (.fieldLink R_M 54 "SecureEntryModel" "thrown" "I") (by decide +kernel)) (fun _ h9 => h9) rfl (by decide +kernel) rfl rfl (Nat.le_of_ble_eq_true rfl) d_M_insert_2 (fun H locs hP hD hS => ?_)
  have hI : InvM (mS st 0 0) := invm_mS hI (by decide)
  have hw : z_wl G (wM bd G st ++ wr) s (wM bd G (mS st 0 0) ++ wr) H locs := ⟨hP, hD, hS⟩
  refine lv_aload_n hx hb d_M_insert_5 rfl (lv_at hl 0 rfl) ?_
  refine va_get (D := G.1) (ci := 3) (v := .int (st.1 13)) (C := R_M) (T := T_M) (N := 25) hx hb hts in_M hown h0.1 hw.1 0 rfl rfl 13 (by decide) (hg (.fieldLink R_M 99 "SecureEntryModel" "up" "Z") (by decide +kernel)) (fun _ h9 => h9) rfl d_M_insert_6 ?_
  refine lv_if_ne (tgt := 18) hx hb d_M_insert_9 (by decide) (fun c_9 => ?_) (fun c_9 => ?_)
  · refine lv_iload_n hx hb d_M_insert_18 rfl (lv_at hl 1 rfl) ?_
    refine lv_iconst (v := 0) hx hb d_M_insert_19 (by decide) ?_
    refine lv_iconst (v := 5) hx hb d_M_insert_20 (by decide) ?_
    refine z_Si0 (As := [.int p1, .int 0, .int 5]) (v := (m_inn p1 0 5)) ⟨hx, hb, hml, hown, hts⟩ (c_M_in l G (wM bd G (mS st 0 0) ++ wr) _ p1 0 5) (cwS 3 hts gS_M_57 rfl rfl rfl (by decide +kernel) ⟨Nat.le_of_ble_eq_true rfl, Nat.le_of_ble_eq_true rfl⟩) h0 hw rfl hl.1 rfl (Nat.le_of_ble_eq_true rfl) d_M_insert_21 ⟨Nat.le_of_ble_eq_true rfl, Nat.le_of_ble_eq_true rfl⟩ (fun H locs hw => ?_)
    refine lv_if_ne (tgt := 33) hx hb d_M_insert_24 (by decide) (fun c_24 => ?_) (fun c_24 => ?_)
    · have hp1 : vp_in p1 6 := minn_in c_24 (by decide)
      refine lv_aload_n hx hb d_M_insert_33 rfl (lv_at hl 0 rfl) ?_
      refine lv_iload_n hx hb d_M_insert_34 rfl (lv_at hl 1 rfl) ?_
      refine z_Vi0 (As := [.int p1]) (v := (m_read (mS st 0 0) p1)) ⟨hx, hb, hml, hown, hts⟩ (c_M_read l G bd (mS st 0 0) wr _ p1) (cwV 1 hts gV_M_85 rfl rfl rfl (by decide +kernel) ⟨Nat.le_of_ble_eq_true rfl, Nat.le_of_ble_eq_true rfl⟩) h0 hw 0 rfl rfl rfl rfl hl.1 rfl (Nat.le_of_ble_eq_true rfl) d_M_insert_35 ⟨Nat.le_of_ble_eq_true rfl, Nat.le_of_ble_eq_true rfl⟩ (fun H locs hw => ?_)
      refine lv_if_ne (tgt := 48) hx hb d_M_insert_38 (by decide) (fun c_38 => ?_) (fun c_38 => ?_)
      · refine lv_aload_n hx hb d_M_insert_48 rfl (lv_at hl 0 rfl) ?_
        refine lv_iconst (v := 1) hx hb d_M_insert_49 (by decide) ?_
        refine z_Vi0 (As := [.int 1]) (v := 0) (ws1 := (wM bd G (mS (mS st 0 0) 0 1) ++ wr)) ⟨hx, hb, hml, hown, hts⟩ (c_M_raise l G bd (mS st 0 0) wr _ 1) (cwV 1 hts gV_M_81 rfl rfl rfl (by decide +kernel) ⟨Nat.le_of_ble_eq_true rfl, Nat.le_of_ble_eq_true rfl⟩) h0 hw 0 rfl rfl rfl rfl hl.1 rfl (Nat.le_of_ble_eq_true rfl) d_M_insert_50 ⟨Nat.le_of_ble_eq_true rfl, Nat.le_of_ble_eq_true rfl⟩ (fun H locs hw => ?_)
        have hI : InvM (mS (mS st 0 0) 0 1) := invm_mS hI (by decide)
        exact z_iret (wf := fun _ : Unit => (wM bd G (m_insert st p1).2 ++ wr)) (post := fun r _ => r = (m_insert st p1).1) (u := ()) hx hb hr hlocks h0 (by rw [m_insert, if_neg c_9, if_neg c_24, if_neg c_38]; exact hw) rfl (by rw [m_insert, if_neg c_9, if_neg c_24, if_neg c_38]) (Nat.le_of_ble_eq_true rfl) (Nat.le_of_ble_eq_true rfl) d_M_insert_53
      · refine lv_aload_n hx hb d_M_insert_41 rfl (lv_at hl 0 rfl) ?_
        refine va_get (D := G.1) (ci := 3) (v := .int (st.1 11)) (C := R_M) (T := T_M) (N := 25) hx hb hts in_M hown h0.1 hw.1 0 rfl rfl 11 (by decide) (hg (.fieldLink R_M 38 "SecureEntryModel" "outer" "I") (by decide +kernel)) (fun _ h9 => h9) rfl d_M_insert_42 ?_
        refine lv_if_lt (tgt := 54) hx hb d_M_insert_45 (by decide) (fun c_45 => ?_) (fun c_45 => ?_)
        · refine lv_aload_n hx hb d_M_insert_54 rfl (lv_at hl 0 rfl) ?_
          refine lv_iload_n hx hb d_M_insert_55 rfl (lv_at hl 1 rfl) ?_
          refine va_put (D := G.1) (ci := 3) (v := .int p1) (ty := .int) (C := R_M) (T := T_M) (N := 25) hx hb hts in_M ty_M ty_M_ok n_M hown h0.1 hw.1 hw.2.1 hw.2.2 0 rfl rfl 11 (by decide) (hg (.fieldLink R_M 38 "SecureEntryModel" "outer" "I") (by decide +kernel)) (fun _ h9 => h9) rfl (by decide +kernel) rfl rfl (Nat.le_of_ble_eq_true rfl) d_M_insert_56 (fun H locs hP hD hS => ?_)
          have hI : InvM (mS (mS st 0 0) 11 p1) := invm_tok11 hI (by first | (unfold vp_in; decide) | assumption | exact Or.inl rfl | exact Or.inr (by assumption))
          have hw : z_wl G (wM bd G st ++ wr) s (wM bd G (mS (mS st 0 0) 11 p1) ++ wr) H locs := ⟨hP, hD, hS⟩
          refine lv_aload_n hx hb d_M_insert_59 rfl (lv_at hl 0 rfl) ?_
          refine lv_iconst (v := 2) hx hb d_M_insert_60 (by decide) ?_
          refine lv_iload_n hx hb d_M_insert_61 rfl (lv_at hl 1 rfl) ?_
          refine z_Vv0 (As := [.int 2, .int p1]) (ws1 := (wM bd G (m_note (mS (mS st 0 0) 11 p1) 2 p1) ++ wr)) ⟨hx, hb, hml, hown, hts⟩ (c_M_note l G bd (mS (mS st 0 0) 11 p1) wr _ 2 p1 hI (Or.inr hp1)) (cwV 2 hts gV_M_122 rfl rfl rfl (by decide +kernel) ⟨Nat.le_of_ble_eq_true rfl, Nat.le_of_ble_eq_true rfl⟩) h0 hw 0 rfl rfl rfl rfl hl.1 rfl (Nat.le_of_ble_eq_true rfl) d_M_insert_62 ⟨Nat.le_of_ble_eq_true rfl, Nat.le_of_ble_eq_true rfl⟩ (fun H locs hw => ?_)
          have hI : InvM (m_note (mS (mS st 0 0) 11 p1) 2 p1) := inv_m_note hI
          refine lv_aload_n hx hb d_M_insert_65 rfl (lv_at hl 0 rfl) ?_
          refine lv_iload_n hx hb d_M_insert_66 rfl (lv_at hl 1 rfl) ?_
          refine z_Vi0 (As := [.int p1]) (v := (m_authorised (m_note (mS (mS st 0 0) 11 p1) 2 p1) p1)) ⟨hx, hb, hml, hown, hts⟩ (c_M_authorised l G bd (m_note (mS (mS st 0 0) 11 p1) 2 p1) wr _ p1 hI hp1) (cwV 1 hts gV_M_125 rfl rfl rfl (by decide +kernel) ⟨Nat.le_of_ble_eq_true rfl, Nat.le_of_ble_eq_true rfl⟩) h0 hw 0 rfl rfl rfl rfl hl.1 rfl (Nat.le_of_ble_eq_true rfl) d_M_insert_67 ⟨Nat.le_of_ble_eq_true rfl, Nat.le_of_ble_eq_true rfl⟩ (fun H locs hw => ?_)
          refine lv_if_eq (tgt := 88) hx hb d_M_insert_70 (by decide) (fun c_70 => ?_) (fun c_70 => ?_)
          · refine lv_aload_n hx hb d_M_insert_88 rfl (lv_at hl 0 rfl) ?_
            refine lv_iload_n hx hb d_M_insert_89 rfl (lv_at hl 1 rfl) ?_
            refine z_Vi0 (As := [.int p1]) (v := (m_good (m_note (mS (mS st 0 0) 11 p1) 2 p1) p1)) ⟨hx, hb, hml, hown, hts⟩ (c_M_good l G bd (m_note (mS (mS st 0 0) 11 p1) 2 p1) wr _ p1 hI hp1) (cwV 1 hts gV_M_132 rfl rfl rfl (by decide +kernel) ⟨Nat.le_of_ble_eq_true rfl, Nat.le_of_ble_eq_true rfl⟩) h0 hw 0 rfl rfl rfl rfl hl.1 rfl (Nat.le_of_ble_eq_true rfl) d_M_insert_90 ⟨Nat.le_of_ble_eq_true rfl, Nat.le_of_ble_eq_true rfl⟩ (fun H locs hw => ?_)
            refine lv_if_eq (tgt := 104) hx hb d_M_insert_93 (by decide) (fun c_93 => ?_) (fun c_93 => ?_)
            · refine lv_aload_n hx hb d_M_insert_104 rfl (lv_at hl 0 rfl) ?_
              refine lv_iconst (v := 3) hx hb d_M_insert_105 (by decide) ?_
              refine z_Vv0 (As := [.int 3]) (ws1 := (wM bd G (m_become (m_note (mS (mS st 0 0) 11 p1) 2 p1) 3) ++ wr)) ⟨hx, hb, hml, hown, hts⟩ (c_M_become l G bd (m_note (mS (mS st 0 0) 11 p1) 2 p1) wr _ 3) (cwV 1 hts gV_M_128 rfl rfl rfl (by decide +kernel) ⟨Nat.le_of_ble_eq_true rfl, Nat.le_of_ble_eq_true rfl⟩) h0 hw 0 rfl rfl rfl rfl hl.1 rfl (Nat.le_of_ble_eq_true rfl) d_M_insert_106 ⟨Nat.le_of_ble_eq_true rfl, Nat.le_of_ble_eq_true rfl⟩ (fun H locs hw => ?_)
              have hI : InvM (m_become (m_note (mS (mS st 0 0) 11 p1) 2 p1) 3) := inv_m_become hI
              refine lv_aload_n hx hb d_M_insert_109 rfl (lv_at hl 0 rfl) ?_
              refine lv_iconst (v := 3) hx hb d_M_insert_110 (by decide) ?_
              refine lv_iload_n hx hb d_M_insert_111 rfl (lv_at hl 1 rfl) ?_
              refine z_Vv0 (As := [.int 3, .int p1]) (ws1 := (wM bd G (m_note (m_become (m_note (mS (mS st 0 0) 11 p1) 2 p1) 3) 3 p1) ++ wr)) ⟨hx, hb, hml, hown, hts⟩ (c_M_note l G bd (m_become (m_note (mS (mS st 0 0) 11 p1) 2 p1) 3) wr _ 3 p1 hI (Or.inr hp1)) (cwV 2 hts gV_M_122 rfl rfl rfl (by decide +kernel) ⟨Nat.le_of_ble_eq_true rfl, Nat.le_of_ble_eq_true rfl⟩) h0 hw 0 rfl rfl rfl rfl hl.1 rfl (Nat.le_of_ble_eq_true rfl) d_M_insert_112 ⟨Nat.le_of_ble_eq_true rfl, Nat.le_of_ble_eq_true rfl⟩ (fun H locs hw => ?_)
              have hI : InvM (m_note (m_become (m_note (mS (mS st 0 0) 11 p1) 2 p1) 3) 3 p1) := inv_m_note hI
              refine lv_aload_n hx hb d_M_insert_115 rfl (lv_at hl 0 rfl) ?_
              refine va_get (D := G.1) (ci := 3) (v := .int ((m_note (m_become (m_note (mS (mS st 0 0) 11 p1) 2 p1) 3) 3 p1).1 14)) (C := R_M) (T := T_M) (N := 25) hx hb hts in_M hown h0.1 hw.1 0 rfl rfl 14 (by decide) (hg (.fieldLink R_M 113 "SecureEntryModel" "user" "I") (by decide +kernel)) (fun _ h9 => h9) rfl d_M_insert_116 ?_
              exact z_iret (wf := fun _ : Unit => (wM bd G (m_insert st p1).2 ++ wr)) (post := fun r _ => r = (m_insert st p1).1) (u := ()) hx hb hr hlocks h0 (by rw [m_insert, if_neg c_9, if_neg c_24, if_pos c_38, if_pos c_45, if_pos c_70, if_pos c_93]; exact hw) rfl (by rw [m_insert, if_neg c_9, if_neg c_24, if_pos c_38, if_pos c_45, if_pos c_70, if_pos c_93]) (Nat.le_of_ble_eq_true rfl) (Nat.le_of_ble_eq_true rfl) d_M_insert_119
            · refine lv_aload_n hx hb d_M_insert_96 rfl (lv_at hl 0 rfl) ?_
              refine lv_iconst (v := 1) hx hb d_M_insert_97 (by decide) ?_
              refine z_Vv0 (As := [.int 1]) (ws1 := (wM bd G (m_become (m_note (mS (mS st 0 0) 11 p1) 2 p1) 1) ++ wr)) ⟨hx, hb, hml, hown, hts⟩ (c_M_become l G bd (m_note (mS (mS st 0 0) 11 p1) 2 p1) wr _ 1) (cwV 1 hts gV_M_128 rfl rfl rfl (by decide +kernel) ⟨Nat.le_of_ble_eq_true rfl, Nat.le_of_ble_eq_true rfl⟩) h0 hw 0 rfl rfl rfl rfl hl.1 rfl (Nat.le_of_ble_eq_true rfl) d_M_insert_98 ⟨Nat.le_of_ble_eq_true rfl, Nat.le_of_ble_eq_true rfl⟩ (fun H locs hw => ?_)
              have hI : InvM (m_become (m_note (mS (mS st 0 0) 11 p1) 2 p1) 1) := inv_m_become hI
              refine lv_goto (tgt := 115) hx hb d_M_insert_101 (by decide) ?_
              refine lv_aload_n hx hb d_M_insert_115 rfl (lv_at hl 0 rfl) ?_
              refine va_get (D := G.1) (ci := 3) (v := .int ((m_become (m_note (mS (mS st 0 0) 11 p1) 2 p1) 1).1 14)) (C := R_M) (T := T_M) (N := 25) hx hb hts in_M hown h0.1 hw.1 0 rfl rfl 14 (by decide) (hg (.fieldLink R_M 113 "SecureEntryModel" "user" "I") (by decide +kernel)) (fun _ h9 => h9) rfl d_M_insert_116 ?_
              exact z_iret (wf := fun _ : Unit => (wM bd G (m_insert st p1).2 ++ wr)) (post := fun r _ => r = (m_insert st p1).1) (u := ()) hx hb hr hlocks h0 (by rw [m_insert, if_neg c_9, if_neg c_24, if_pos c_38, if_pos c_45, if_pos c_70, if_neg c_93]; exact hw) rfl (by rw [m_insert, if_neg c_9, if_neg c_24, if_pos c_38, if_pos c_45, if_pos c_70, if_neg c_93]) (Nat.le_of_ble_eq_true rfl) (Nat.le_of_ble_eq_true rfl) d_M_insert_119
          · refine lv_aload_n hx hb d_M_insert_73 rfl (lv_at hl 0 rfl) ?_
            refine lv_iconst (v := 2) hx hb d_M_insert_74 (by decide) ?_
            refine z_Vv0 (As := [.int 2]) (ws1 := (wM bd G (m_become (m_note (mS (mS st 0 0) 11 p1) 2 p1) 2) ++ wr)) ⟨hx, hb, hml, hown, hts⟩ (c_M_become l G bd (m_note (mS (mS st 0 0) 11 p1) 2 p1) wr _ 2) (cwV 1 hts gV_M_128 rfl rfl rfl (by decide +kernel) ⟨Nat.le_of_ble_eq_true rfl, Nat.le_of_ble_eq_true rfl⟩) h0 hw 0 rfl rfl rfl rfl hl.1 rfl (Nat.le_of_ble_eq_true rfl) d_M_insert_75 ⟨Nat.le_of_ble_eq_true rfl, Nat.le_of_ble_eq_true rfl⟩ (fun H locs hw => ?_)
            have hI : InvM (m_become (m_note (mS (mS st 0 0) 11 p1) 2 p1) 2) := inv_m_become hI
            refine lv_aload_n hx hb d_M_insert_78 rfl (lv_at hl 0 rfl) ?_
            refine lv_bipush (v := 7) hx hb d_M_insert_79 (by decide) ?_
            refine lv_iload_n hx hb d_M_insert_81 rfl (lv_at hl 1 rfl) ?_
            refine z_Vv0 (As := [.int 7, .int p1]) (ws1 := (wM bd G (m_note (m_become (m_note (mS (mS st 0 0) 11 p1) 2 p1) 2) 7 p1) ++ wr)) ⟨hx, hb, hml, hown, hts⟩ (c_M_note l G bd (m_become (m_note (mS (mS st 0 0) 11 p1) 2 p1) 2) wr _ 7 p1 hI (Or.inr hp1)) (cwV 2 hts gV_M_122 rfl rfl rfl (by decide +kernel) ⟨Nat.le_of_ble_eq_true rfl, Nat.le_of_ble_eq_true rfl⟩) h0 hw 0 rfl rfl rfl rfl hl.1 rfl (Nat.le_of_ble_eq_true rfl) d_M_insert_82 ⟨Nat.le_of_ble_eq_true rfl, Nat.le_of_ble_eq_true rfl⟩ (fun H locs hw => ?_)
            have hI : InvM (m_note (m_become (m_note (mS (mS st 0 0) 11 p1) 2 p1) 2) 7 p1) := inv_m_note hI
            refine lv_goto (tgt := 115) hx hb d_M_insert_85 (by decide) ?_
            refine lv_aload_n hx hb d_M_insert_115 rfl (lv_at hl 0 rfl) ?_
            refine va_get (D := G.1) (ci := 3) (v := .int ((m_note (m_become (m_note (mS (mS st 0 0) 11 p1) 2 p1) 2) 7 p1).1 14)) (C := R_M) (T := T_M) (N := 25) hx hb hts in_M hown h0.1 hw.1 0 rfl rfl 14 (by decide) (hg (.fieldLink R_M 113 "SecureEntryModel" "user" "I") (by decide +kernel)) (fun _ h9 => h9) rfl d_M_insert_116 ?_
            exact z_iret (wf := fun _ : Unit => (wM bd G (m_insert st p1).2 ++ wr)) (post := fun r _ => r = (m_insert st p1).1) (u := ()) hx hb hr hlocks h0 (by rw [m_insert, if_neg c_9, if_neg c_24, if_pos c_38, if_pos c_45, if_neg c_70]; exact hw) rfl (by rw [m_insert, if_neg c_9, if_neg c_24, if_pos c_38, if_pos c_45, if_neg c_70]) (Nat.le_of_ble_eq_true rfl) (Nat.le_of_ble_eq_true rfl) d_M_insert_119
        · refine lv_aload_n hx hb d_M_insert_48 rfl (lv_at hl 0 rfl) ?_
          refine lv_iconst (v := 1) hx hb d_M_insert_49 (by decide) ?_
          refine z_Vi0 (As := [.int 1]) (v := 0) (ws1 := (wM bd G (mS (mS st 0 0) 0 1) ++ wr)) ⟨hx, hb, hml, hown, hts⟩ (c_M_raise l G bd (mS st 0 0) wr _ 1) (cwV 1 hts gV_M_81 rfl rfl rfl (by decide +kernel) ⟨Nat.le_of_ble_eq_true rfl, Nat.le_of_ble_eq_true rfl⟩) h0 hw 0 rfl rfl rfl rfl hl.1 rfl (Nat.le_of_ble_eq_true rfl) d_M_insert_50 ⟨Nat.le_of_ble_eq_true rfl, Nat.le_of_ble_eq_true rfl⟩ (fun H locs hw => ?_)
          have hI : InvM (mS (mS st 0 0) 0 1) := invm_mS hI (by decide)
          exact z_iret (wf := fun _ : Unit => (wM bd G (m_insert st p1).2 ++ wr)) (post := fun r _ => r = (m_insert st p1).1) (u := ()) hx hb hr hlocks h0 (by rw [m_insert, if_neg c_9, if_neg c_24, if_pos c_38, if_neg c_45]; exact hw) rfl (by rw [m_insert, if_neg c_9, if_neg c_24, if_pos c_38, if_neg c_45]) (Nat.le_of_ble_eq_true rfl) (Nat.le_of_ble_eq_true rfl) d_M_insert_53
    · refine lv_aload_n hx hb d_M_insert_27 rfl (lv_at hl 0 rfl) ?_
      refine lv_iconst (v := 2) hx hb d_M_insert_28 (by decide) ?_
      refine z_Vi0 (As := [.int 2]) (v := 0) (ws1 := (wM bd G (mS (mS st 0 0) 0 2) ++ wr)) ⟨hx, hb, hml, hown, hts⟩ (c_M_raise l G bd (mS st 0 0) wr _ 2) (cwV 1 hts gV_M_81 rfl rfl rfl (by decide +kernel) ⟨Nat.le_of_ble_eq_true rfl, Nat.le_of_ble_eq_true rfl⟩) h0 hw 0 rfl rfl rfl rfl hl.1 rfl (Nat.le_of_ble_eq_true rfl) d_M_insert_29 ⟨Nat.le_of_ble_eq_true rfl, Nat.le_of_ble_eq_true rfl⟩ (fun H locs hw => ?_)
      have hI : InvM (mS (mS st 0 0) 0 2) := invm_mS hI (by decide)
      exact z_iret (wf := fun _ : Unit => (wM bd G (m_insert st p1).2 ++ wr)) (post := fun r _ => r = (m_insert st p1).1) (u := ()) hx hb hr hlocks h0 (by rw [m_insert, if_neg c_9, if_pos c_24]; exact hw) rfl (by rw [m_insert, if_neg c_9, if_pos c_24]) (Nat.le_of_ble_eq_true rfl) (Nat.le_of_ble_eq_true rfl) d_M_insert_32
  · refine lv_aload_n hx hb d_M_insert_12 rfl (lv_at hl 0 rfl) ?_
    refine lv_iconst (v := 1) hx hb d_M_insert_13 (by decide) ?_
    refine z_Vi0 (As := [.int 1]) (v := 0) (ws1 := (wM bd G (mS (mS st 0 0) 0 1) ++ wr)) ⟨hx, hb, hml, hown, hts⟩ (c_M_raise l G bd (mS st 0 0) wr _ 1) (cwV 1 hts gV_M_81 rfl rfl rfl (by decide +kernel) ⟨Nat.le_of_ble_eq_true rfl, Nat.le_of_ble_eq_true rfl⟩) h0 hw 0 rfl rfl rfl rfl hl.1 rfl (Nat.le_of_ble_eq_true rfl) d_M_insert_14 ⟨Nat.le_of_ble_eq_true rfl, Nat.le_of_ble_eq_true rfl⟩ (fun H locs hw => ?_)
    have hI : InvM (mS (mS st 0 0) 0 1) := invm_mS hI (by decide)
    exact z_iret (wf := fun _ : Unit => (wM bd G (m_insert st p1).2 ++ wr)) (post := fun r _ => r = (m_insert st p1).1) (u := ()) hx hb hr hlocks h0 (by rw [m_insert, if_pos c_9]; exact hw) rfl (by rw [m_insert, if_pos c_9]) (Nat.le_of_ble_eq_true rfl) (Nat.le_of_ble_eq_true rfl) d_M_insert_17

end MC
