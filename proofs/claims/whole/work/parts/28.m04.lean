section MC
set_option maxHeartbeats 4000000 in
set_option maxRecDepth 100000 in
theorem c_M_second (l : Launch) (G : gG) (bd : Nat → Nat) (st : MS) (wr : va_W) (sz : Nat)  (hI : InvM st) (hri : RI st) : Met l y_M_second w_M_second { frames := 2, cells := 0, slots := 0, locals := 50 } (va_Pc [.ref (bd 0)] (z_pre G (wM bd G st ++ wr) sz)) (z_Qv0 G (wM bd G st ++ wr) sz (wM bd G (m_second st) ++ wr)) 0 0 (va_A (wM bd G st ++ wr) sz) := by
  refine Met.ofW (cc := b_M_second) (maxL := 1) (ret := none) (by decide) rfl ?_
  intro p e s m args below meth c s₁ B hml hv
  obtain ⟨rfl, hsz, hP, hK, hD0, ham⟩ := hv
  subst hsz
  have hx := B.exec
  have hb := B.bytes
  have hr := B.returns
  have hts : ∀ w ∈ goT, w.before _ s = true := fun w h => atoms_spec (ws := w_M_second) B.pre w (List.mem_cons_of_mem _ h)
  have hg : ∀ w, goB w = true → w.before _ s = true := fun w h => hts w (goI h)
  have hown : s.vm.findClass R_M = some m.cls := findClass_of_methodNamed B.named
  have hlocks := B.notSynchronized
  have h0 : z_st G (wM bd G st ++ wr) s := ⟨hK, ham⟩
  have hw : z_wl G (wM bd G st ++ wr) s (wM bd G st ++ wr) s.heap [] := z_0 hP hD0
  have hl := lv_entry ([.ref (bd 0)]) (n := 1) (Nat.le_of_ble_eq_true rfl)
  rw [lg_entry_eq]
  generalize (lg_sl ([.ref (bd 0)]) ++ List.replicate (1 - (lg_sl ([.ref (bd 0)])).length) Slot.unset).toArray = ls at hl ⊢
  have hl : lv_has ls 1 [(0, .ref (bd 0))] := hl
  refine lv_aload_n hx hb d_M_second_0 rfl (lv_at hl 0 rfl) ?_
  refine lv_dup hx hb d_M_second_1 rfl ?_
  refine va_get (D := G.1) (ci := 3) (v := .int (st.1 1)) (C := R_M) (T := T_M) (N := 25) hx hb hts in_M hown h0.1 hw.1 0 rfl rfl 1 (by decide) (hg (.fieldLink R_M 93 "SecureEntryModel" "time" "I") (by decide +kernel)) (fun _ h9 => h9) rfl d_M_second_2 ?_
  refine lv_iconst (v := 1) hx hb d_M_second_5 (by decide) ?_
  refine lv_iadd hx hb d_M_second_6 ?_
  refine va_put (D := G.1) (ci := 3) (v := .int ((st.1 1) + 1)) (ty := .int) (C := R_M) (T := T_M) (N := 25) hx hb hts in_M ty_M ty_M_ok n_M hown h0.1 hw.1 hw.2.1 hw.2.2 0 rfl rfl 1 (by decide) (hg (.fieldLink R_M 93 "SecureEntryModel" "time" "I") (by decide +kernel)) (fun _ h9 => h9) rfl (by decide +kernel) rfl rfl (Nat.le_of_ble_eq_true rfl) d_M_second_7 (fun H locs hP hD hS => ?_)
  have hI : InvM (mS st 1 ((st.1 1) + 1)) := invm_mS hI (by decide)
  have hw : z_wl G (wM bd G st ++ wr) s (wM bd G (mS st 1 ((st.1 1) + 1)) ++ wr) H locs := ⟨hP, hD, hS⟩
  refine lv_aload_n hx hb d_M_second_10 rfl (lv_at hl 0 rfl) ?_
  refine va_get (D := G.1) (ci := 3) (v := .int (st.1 14)) (C := R_M) (T := T_M) (N := 25) hx hb hts in_M hown h0.1 hw.1 0 rfl rfl 14 (by decide) (hg (.fieldLink R_M 113 "SecureEntryModel" "user" "I") (by decide +kernel)) (fun _ h9 => h9) rfl d_M_second_11 ?_
  refine lv_iconst (v := 1) hx hb d_M_second_14 (by decide) ?_
  refine lv_icmp_eq (tgt := 26) hx hb d_M_second_15 (by decide) (fun c_15 => ?_) (fun c_15 => ?_)
  · refine lv_aload_n hx hb d_M_second_26 rfl (lv_at hl 0 rfl) ?_
    refine va_get (D := G.1) (ci := 3) (v := .int ((st.1 1) + 1)) (C := R_M) (T := T_M) (N := 25) hx hb hts in_M hown h0.1 hw.1 0 rfl rfl 1 (by decide) (hg (.fieldLink R_M 93 "SecureEntryModel" "time" "I") (by decide +kernel)) (fun _ h9 => h9) rfl d_M_second_27 ?_
    refine lv_aload_n hx hb d_M_second_30 rfl (lv_at hl 0 rfl) ?_
    refine va_get (D := G.1) (ci := 3) (v := .int (st.1 15)) (C := R_M) (T := T_M) (N := 25) hx hb hts in_M hown h0.1 hw.1 0 rfl rfl 15 (by decide) (hg (.fieldLink R_M 119 "SecureEntryModel" "since" "I") (by decide +kernel)) (fun _ h9 => h9) rfl d_M_second_31 ?_
    refine lv_isub hx hb d_M_second_34 ?_
    refine lv_aload_n hx hb d_M_second_35 rfl (lv_at hl 0 rfl) ?_
    refine va_get (D := G.1) (ci := 3) (v := .ref (bd 2)) (C := R_M) (T := T_M) (N := 25) hx hb hts in_M hown h0.1 hw.1 0 rfl rfl 2 (by decide) (hg (.fieldLink R_M 7 "SecureEntryModel" "config" "[I") (by decide +kernel)) (fun _ h9 => h9) rfl d_M_second_36 ?_
    refine lv_iconst (v := 2) hx hb d_M_second_39 (by decide) ?_
    refine va_iald (f := (st.2 2)) hx hb h0.1 hw.1 1 0 rfl rfl (show vp_in 2 6 by unfold vp_in; decide) d_M_second_40 ?_
    refine lv_icmp_lt (tgt := 59) hx hb d_M_second_41 (by decide) (fun c_41 => ?_) (fun c_41 => ?_)
    · have hri : RI (mS st 1 ((st.1 1) + 1)) := by first | exact ri_mS hri (by decide) | exact ri_note (ri_become (ri_mS hri (by decide)))
      refine lv_aload_n hx hb d_M_second_59 rfl (lv_at hl 0 rfl) ?_
      refine va_get (D := G.1) (ci := 3) (v := .int (st.1 16)) (C := R_M) (T := T_M) (N := 25) hx hb hts in_M hown h0.1 hw.1 0 rfl rfl 16 (by decide) (hg (.fieldLink R_M 116 "SecureEntryModel" "role" "I") (by decide +kernel)) (fun _ h9 => h9) rfl d_M_second_60 ?_
      refine lv_if_eq (tgt := 81) hx hb d_M_second_63 (by decide) (fun c_63 => ?_) (fun c_63 => ?_)
      · exact z_vret (wf := fun _ : Unit => (wM bd G (m_second st) ++ wr)) (u := ()) hx hb hr hlocks h0 (by rw [m_second, if_pos c_15, if_pos c_41, if_pos c_63]; exact hw) trivial (Nat.le_of_ble_eq_true rfl) (Nat.le_of_ble_eq_true rfl) d_M_second_81
      · have hi6 : vp_in (st.1 12) 6 := hri c_63
        refine lv_aload_n hx hb d_M_second_66 rfl (lv_at hl 0 rfl) ?_
        refine lv_iconst (v := 4) hx hb d_M_second_67 (by decide) ?_
        refine lv_aload_n hx hb d_M_second_68 rfl (lv_at hl 0 rfl) ?_
        refine va_get (D := G.1) (ci := 3) (v := .int (st.1 12)) (C := R_M) (T := T_M) (N := 25) hx hb hts in_M hown h0.1 hw.1 0 rfl rfl 12 (by decide) (hg (.fieldLink R_M 42 "SecureEntryModel" "inner" "I") (by decide +kernel)) (fun _ h9 => h9) rfl d_M_second_69 ?_
        refine lv_imul hx hb d_M_second_72 ?_
        refine lv_iconst (v := 3) hx hb d_M_second_73 (by decide) ?_
        refine lv_iadd hx hb d_M_second_74 ?_
        refine z_Vi0 (As := [.int ((4 * (st.1 12)) + 3)]) (v := (m_valid (mS st 1 ((st.1 1) + 1)) ((4 * (st.1 12)) + 3))) ⟨hx, hb, hml, hown, hts⟩ (c_M_valid l G bd (mS st 1 ((st.1 1) + 1)) wr _ ((4 * (st.1 12)) + 3) hI (z_m3 hi6)) (cwV 1 hts gV_M_96 rfl rfl rfl (by decide +kernel) ⟨Nat.le_of_ble_eq_true rfl, Nat.le_of_ble_eq_true rfl⟩) h0 hw 0 rfl rfl rfl rfl hl.1 rfl (Nat.le_of_ble_eq_true rfl) d_M_second_75 ⟨Nat.le_of_ble_eq_true rfl, Nat.le_of_ble_eq_true rfl⟩ (fun H locs hw => ?_)
        refine lv_if_eq (tgt := 82) hx hb d_M_second_78 (by decide) (fun c_78 => ?_) (fun c_78 => ?_)
        · refine lv_aload_n hx hb d_M_second_82 rfl (lv_at hl 0 rfl) ?_
          refine lv_bipush (v := 11) hx hb d_M_second_83 (by decide) ?_
          refine lv_aload_n hx hb d_M_second_85 rfl (lv_at hl 0 rfl) ?_
          refine va_get (D := G.1) (ci := 3) (v := .int (st.1 12)) (C := R_M) (T := T_M) (N := 25) hx hb hts in_M hown h0.1 hw.1 0 rfl rfl 12 (by decide) (hg (.fieldLink R_M 42 "SecureEntryModel" "inner" "I") (by decide +kernel)) (fun _ h9 => h9) rfl d_M_second_86 ?_
          refine z_Vv0 (As := [.int 11, .int (st.1 12)]) (ws1 := (wM bd G (m_note (mS st 1 ((st.1 1) + 1)) 11 (st.1 12)) ++ wr)) ⟨hx, hb, hml, hown, hts⟩ (c_M_note l G bd (mS st 1 ((st.1 1) + 1)) wr _ 11 (st.1 12) hI (Or.inr hi6)) (cwV 2 hts gV_M_122 rfl rfl rfl (by decide +kernel) ⟨Nat.le_of_ble_eq_true rfl, Nat.le_of_ble_eq_true rfl⟩) h0 hw 0 rfl rfl rfl rfl hl.1 rfl (Nat.le_of_ble_eq_true rfl) d_M_second_89 ⟨Nat.le_of_ble_eq_true rfl, Nat.le_of_ble_eq_true rfl⟩ (fun H locs hw => ?_)
          have hI : InvM (m_note (mS st 1 ((st.1 1) + 1)) 11 (st.1 12)) := inv_m_note hI
          refine lv_aload_n hx hb d_M_second_92 rfl (lv_at hl 0 rfl) ?_
          refine lv_iconst (v := 0) hx hb d_M_second_93 (by decide) ?_
          refine va_put (D := G.1) (ci := 3) (v := .int 0) (ty := .int) (C := R_M) (T := T_M) (N := 25) hx hb hts in_M ty_M ty_M_ok n_M hown h0.1 hw.1 hw.2.1 hw.2.2 0 rfl rfl 16 (by decide) (hg (.fieldLink R_M 116 "SecureEntryModel" "role" "I") (by decide +kernel)) (fun _ h9 => h9) rfl (by decide +kernel) rfl rfl (Nat.le_of_ble_eq_true rfl) d_M_second_94 (fun H locs hP hD hS => ?_)
          have hI : InvM (mS (m_note (mS st 1 ((st.1 1) + 1)) 11 (st.1 12)) 16 0) := invm_mS hI (by decide)
          have hw : z_wl G (wM bd G st ++ wr) s (wM bd G (mS (m_note (mS st 1 ((st.1 1) + 1)) 11 (st.1 12)) 16 0) ++ wr) H locs := ⟨hP, hD, hS⟩
          exact z_vret (wf := fun _ : Unit => (wM bd G (m_second st) ++ wr)) (u := ()) hx hb hr hlocks h0 (by rw [m_second, if_pos c_15, if_pos c_41, if_neg c_63, if_pos c_78]; exact hw) trivial (Nat.le_of_ble_eq_true rfl) (Nat.le_of_ble_eq_true rfl) d_M_second_97
        · exact z_vret (wf := fun _ : Unit => (wM bd G (m_second st) ++ wr)) (u := ()) hx hb hr hlocks h0 (by rw [m_second, if_pos c_15, if_pos c_41, if_neg c_63, if_neg c_78]; exact hw) trivial (Nat.le_of_ble_eq_true rfl) (Nat.le_of_ble_eq_true rfl) d_M_second_81
    · refine lv_aload_n hx hb d_M_second_44 rfl (lv_at hl 0 rfl) ?_
      refine lv_iconst (v := 3) hx hb d_M_second_45 (by decide) ?_
      refine z_Vv0 (As := [.int 3]) (ws1 := (wM bd G (m_become (mS st 1 ((st.1 1) + 1)) 3) ++ wr)) ⟨hx, hb, hml, hown, hts⟩ (c_M_become l G bd (mS st 1 ((st.1 1) + 1)) wr _ 3) (cwV 1 hts gV_M_128 rfl rfl rfl (by decide +kernel) ⟨Nat.le_of_ble_eq_true rfl, Nat.le_of_ble_eq_true rfl⟩) h0 hw 0 rfl rfl rfl rfl hl.1 rfl (Nat.le_of_ble_eq_true rfl) d_M_second_46 ⟨Nat.le_of_ble_eq_true rfl, Nat.le_of_ble_eq_true rfl⟩ (fun H locs hw => ?_)
      have hI : InvM (m_become (mS st 1 ((st.1 1) + 1)) 3) := inv_m_become hI
      refine lv_aload_n hx hb d_M_second_49 rfl (lv_at hl 0 rfl) ?_
      refine lv_bipush (v := 6) hx hb d_M_second_50 (by decide) ?_
      refine lv_aload_n hx hb d_M_second_52 rfl (lv_at hl 0 rfl) ?_
      refine va_get (D := G.1) (ci := 3) (v := .int ((m_become (mS st 1 ((st.1 1) + 1)) 3).1 11)) (C := R_M) (T := T_M) (N := 25) hx hb hts in_M hown h0.1 hw.1 0 rfl rfl 11 (by decide) (hg (.fieldLink R_M 38 "SecureEntryModel" "outer" "I") (by decide +kernel)) (fun _ h9 => h9) rfl d_M_second_53 ?_
      refine z_Vv0 (As := [.int 6, .int ((m_become (mS st 1 ((st.1 1) + 1)) 3).1 11)]) (ws1 := (wM bd G (m_note (m_become (mS st 1 ((st.1 1) + 1)) 3) 6 ((m_become (mS st 1 ((st.1 1) + 1)) 3).1 11)) ++ wr)) ⟨hx, hb, hml, hown, hts⟩ (c_M_note l G bd (m_become (mS st 1 ((st.1 1) + 1)) 3) wr _ 6 ((m_become (mS st 1 ((st.1 1) + 1)) 3).1 11) hI hI.2.2.1) (cwV 2 hts gV_M_122 rfl rfl rfl (by decide +kernel) ⟨Nat.le_of_ble_eq_true rfl, Nat.le_of_ble_eq_true rfl⟩) h0 hw 0 rfl rfl rfl rfl hl.1 rfl (Nat.le_of_ble_eq_true rfl) d_M_second_56 ⟨Nat.le_of_ble_eq_true rfl, Nat.le_of_ble_eq_true rfl⟩ (fun H locs hw => ?_)
      have hI : InvM (m_note (m_become (mS st 1 ((st.1 1) + 1)) 3) 6 ((m_become (mS st 1 ((st.1 1) + 1)) 3).1 11)) := inv_m_note hI
      have hri : RI (m_note (m_become (mS st 1 ((st.1 1) + 1)) 3) 6 ((m_become (mS st 1 ((st.1 1) + 1)) 3).1 11)) := by first | exact ri_mS hri (by decide) | exact ri_note (ri_become (ri_mS hri (by decide)))
      refine lv_aload_n hx hb d_M_second_59 rfl (lv_at hl 0 rfl) ?_
      refine va_get (D := G.1) (ci := 3) (v := .int ((m_note (m_become (mS st 1 ((st.1 1) + 1)) 3) 6 ((m_become (mS st 1 ((st.1 1) + 1)) 3).1 11)).1 16)) (C := R_M) (T := T_M) (N := 25) hx hb hts in_M hown h0.1 hw.1 0 rfl rfl 16 (by decide) (hg (.fieldLink R_M 116 "SecureEntryModel" "role" "I") (by decide +kernel)) (fun _ h9 => h9) rfl d_M_second_60 ?_
      refine lv_if_eq (tgt := 81) hx hb d_M_second_63 (by decide) (fun c_63 => ?_) (fun c_63 => ?_)
      · exact z_vret (wf := fun _ : Unit => (wM bd G (m_second st) ++ wr)) (u := ()) hx hb hr hlocks h0 (by rw [m_second, if_pos c_15, if_neg c_41, if_pos c_63]; exact hw) trivial (Nat.le_of_ble_eq_true rfl) (Nat.le_of_ble_eq_true rfl) d_M_second_81
      · have hi6 : vp_in ((m_note (m_become (mS st 1 ((st.1 1) + 1)) 3) 6 ((m_become (mS st 1 ((st.1 1) + 1)) 3).1 11)).1 12) 6 := hri c_63
        refine lv_aload_n hx hb d_M_second_66 rfl (lv_at hl 0 rfl) ?_
        refine lv_iconst (v := 4) hx hb d_M_second_67 (by decide) ?_
        refine lv_aload_n hx hb d_M_second_68 rfl (lv_at hl 0 rfl) ?_
        refine va_get (D := G.1) (ci := 3) (v := .int ((m_note (m_become (mS st 1 ((st.1 1) + 1)) 3) 6 ((m_become (mS st 1 ((st.1 1) + 1)) 3).1 11)).1 12)) (C := R_M) (T := T_M) (N := 25) hx hb hts in_M hown h0.1 hw.1 0 rfl rfl 12 (by decide) (hg (.fieldLink R_M 42 "SecureEntryModel" "inner" "I") (by decide +kernel)) (fun _ h9 => h9) rfl d_M_second_69 ?_
        refine lv_imul hx hb d_M_second_72 ?_
        refine lv_iconst (v := 3) hx hb d_M_second_73 (by decide) ?_
        refine lv_iadd hx hb d_M_second_74 ?_
        refine z_Vi0 (As := [.int ((4 * ((m_note (m_become (mS st 1 ((st.1 1) + 1)) 3) 6 ((m_become (mS st 1 ((st.1 1) + 1)) 3).1 11)).1 12)) + 3)]) (v := (m_valid (m_note (m_become (mS st 1 ((st.1 1) + 1)) 3) 6 ((m_become (mS st 1 ((st.1 1) + 1)) 3).1 11)) ((4 * ((m_note (m_become (mS st 1 ((st.1 1) + 1)) 3) 6 ((m_become (mS st 1 ((st.1 1) + 1)) 3).1 11)).1 12)) + 3))) ⟨hx, hb, hml, hown, hts⟩ (c_M_valid l G bd (m_note (m_become (mS st 1 ((st.1 1) + 1)) 3) 6 ((m_become (mS st 1 ((st.1 1) + 1)) 3).1 11)) wr _ ((4 * ((m_note (m_become (mS st 1 ((st.1 1) + 1)) 3) 6 ((m_become (mS st 1 ((st.1 1) + 1)) 3).1 11)).1 12)) + 3) hI (z_m3 hi6)) (cwV 1 hts gV_M_96 rfl rfl rfl (by decide +kernel) ⟨Nat.le_of_ble_eq_true rfl, Nat.le_of_ble_eq_true rfl⟩) h0 hw 0 rfl rfl rfl rfl hl.1 rfl (Nat.le_of_ble_eq_true rfl) d_M_second_75 ⟨Nat.le_of_ble_eq_true rfl, Nat.le_of_ble_eq_true rfl⟩ (fun H locs hw => ?_)
        refine lv_if_eq (tgt := 82) hx hb d_M_second_78 (by decide) (fun c_78 => ?_) (fun c_78 => ?_)
        · refine lv_aload_n hx hb d_M_second_82 rfl (lv_at hl 0 rfl) ?_
          refine lv_bipush (v := 11) hx hb d_M_second_83 (by decide) ?_
          refine lv_aload_n hx hb d_M_second_85 rfl (lv_at hl 0 rfl) ?_
          refine va_get (D := G.1) (ci := 3) (v := .int ((m_note (m_become (mS st 1 ((st.1 1) + 1)) 3) 6 ((m_become (mS st 1 ((st.1 1) + 1)) 3).1 11)).1 12)) (C := R_M) (T := T_M) (N := 25) hx hb hts in_M hown h0.1 hw.1 0 rfl rfl 12 (by decide) (hg (.fieldLink R_M 42 "SecureEntryModel" "inner" "I") (by decide +kernel)) (fun _ h9 => h9) rfl d_M_second_86 ?_
          refine z_Vv0 (As := [.int 11, .int ((m_note (m_become (mS st 1 ((st.1 1) + 1)) 3) 6 ((m_become (mS st 1 ((st.1 1) + 1)) 3).1 11)).1 12)]) (ws1 := (wM bd G (m_note (m_note (m_become (mS st 1 ((st.1 1) + 1)) 3) 6 ((m_become (mS st 1 ((st.1 1) + 1)) 3).1 11)) 11 ((m_note (m_become (mS st 1 ((st.1 1) + 1)) 3) 6 ((m_become (mS st 1 ((st.1 1) + 1)) 3).1 11)).1 12)) ++ wr)) ⟨hx, hb, hml, hown, hts⟩ (c_M_note l G bd (m_note (m_become (mS st 1 ((st.1 1) + 1)) 3) 6 ((m_become (mS st 1 ((st.1 1) + 1)) 3).1 11)) wr _ 11 ((m_note (m_become (mS st 1 ((st.1 1) + 1)) 3) 6 ((m_become (mS st 1 ((st.1 1) + 1)) 3).1 11)).1 12) hI (Or.inr hi6)) (cwV 2 hts gV_M_122 rfl rfl rfl (by decide +kernel) ⟨Nat.le_of_ble_eq_true rfl, Nat.le_of_ble_eq_true rfl⟩) h0 hw 0 rfl rfl rfl rfl hl.1 rfl (Nat.le_of_ble_eq_true rfl) d_M_second_89 ⟨Nat.le_of_ble_eq_true rfl, Nat.le_of_ble_eq_true rfl⟩ (fun H locs hw => ?_)
          have hI : InvM (m_note (m_note (m_become (mS st 1 ((st.1 1) + 1)) 3) 6 ((m_become (mS st 1 ((st.1 1) + 1)) 3).1 11)) 11 ((m_note (m_become (mS st 1 ((st.1 1) + 1)) 3) 6 ((m_become (mS st 1 ((st.1 1) + 1)) 3).1 11)).1 12)) := inv_m_note hI
          refine lv_aload_n hx hb d_M_second_92 rfl (lv_at hl 0 rfl) ?_
          refine lv_iconst (v := 0) hx hb d_M_second_93 (by decide) ?_
          refine va_put (D := G.1) (ci := 3) (v := .int 0) (ty := .int) (C := R_M) (T := T_M) (N := 25) hx hb hts in_M ty_M ty_M_ok n_M hown h0.1 hw.1 hw.2.1 hw.2.2 0 rfl rfl 16 (by decide) (hg (.fieldLink R_M 116 "SecureEntryModel" "role" "I") (by decide +kernel)) (fun _ h9 => h9) rfl (by decide +kernel) rfl rfl (Nat.le_of_ble_eq_true rfl) d_M_second_94 (fun H locs hP hD hS => ?_)
          have hI : InvM (mS (m_note (m_note (m_become (mS st 1 ((st.1 1) + 1)) 3) 6 ((m_become (mS st 1 ((st.1 1) + 1)) 3).1 11)) 11 ((m_note (m_become (mS st 1 ((st.1 1) + 1)) 3) 6 ((m_become (mS st 1 ((st.1 1) + 1)) 3).1 11)).1 12)) 16 0) := invm_mS hI (by decide)
          have hw : z_wl G (wM bd G st ++ wr) s (wM bd G (mS (m_note (m_note (m_become (mS st 1 ((st.1 1) + 1)) 3) 6 ((m_become (mS st 1 ((st.1 1) + 1)) 3).1 11)) 11 ((m_note (m_become (mS st 1 ((st.1 1) + 1)) 3) 6 ((m_become (mS st 1 ((st.1 1) + 1)) 3).1 11)).1 12)) 16 0) ++ wr) H locs := ⟨hP, hD, hS⟩
          exact z_vret (wf := fun _ : Unit => (wM bd G (m_second st) ++ wr)) (u := ()) hx hb hr hlocks h0 (by rw [m_second, if_pos c_15, if_neg c_41, if_neg c_63, if_pos c_78]; exact hw) trivial (Nat.le_of_ble_eq_true rfl) (Nat.le_of_ble_eq_true rfl) d_M_second_97
        · exact z_vret (wf := fun _ : Unit => (wM bd G (m_second st) ++ wr)) (u := ()) hx hb hr hlocks h0 (by rw [m_second, if_pos c_15, if_neg c_41, if_neg c_63, if_neg c_78]; exact hw) trivial (Nat.le_of_ble_eq_true rfl) (Nat.le_of_ble_eq_true rfl) d_M_second_81
  · refine lv_aload_n hx hb d_M_second_18 rfl (lv_at hl 0 rfl) ?_
    refine va_get (D := G.1) (ci := 3) (v := .int (st.1 14)) (C := R_M) (T := T_M) (N := 25) hx hb hts in_M hown h0.1 hw.1 0 rfl rfl 14 (by decide) (hg (.fieldLink R_M 113 "SecureEntryModel" "user" "I") (by decide +kernel)) (fun _ h9 => h9) rfl d_M_second_19 ?_
    refine lv_iconst (v := 2) hx hb d_M_second_22 (by decide) ?_
    refine lv_icmp_ne (tgt := 59) hx hb d_M_second_23 (by decide) (fun c_23 => ?_) (fun c_23 => ?_)
    · have hri : RI (mS st 1 ((st.1 1) + 1)) := by first | exact ri_mS hri (by decide) | exact ri_note (ri_become (ri_mS hri (by decide)))
      refine lv_aload_n hx hb d_M_second_59 rfl (lv_at hl 0 rfl) ?_
      refine va_get (D := G.1) (ci := 3) (v := .int (st.1 16)) (C := R_M) (T := T_M) (N := 25) hx hb hts in_M hown h0.1 hw.1 0 rfl rfl 16 (by decide) (hg (.fieldLink R_M 116 "SecureEntryModel" "role" "I") (by decide +kernel)) (fun _ h9 => h9) rfl d_M_second_60 ?_
      refine lv_if_eq (tgt := 81) hx hb d_M_second_63 (by decide) (fun c_63 => ?_) (fun c_63 => ?_)
      · exact z_vret (wf := fun _ : Unit => (wM bd G (m_second st) ++ wr)) (u := ()) hx hb hr hlocks h0 (by rw [m_second, if_neg c_15, if_neg c_23, if_pos c_63]; exact hw) trivial (Nat.le_of_ble_eq_true rfl) (Nat.le_of_ble_eq_true rfl) d_M_second_81
      · have hi6 : vp_in (st.1 12) 6 := hri c_63
        refine lv_aload_n hx hb d_M_second_66 rfl (lv_at hl 0 rfl) ?_
        refine lv_iconst (v := 4) hx hb d_M_second_67 (by decide) ?_
        refine lv_aload_n hx hb d_M_second_68 rfl (lv_at hl 0 rfl) ?_
        refine va_get (D := G.1) (ci := 3) (v := .int (st.1 12)) (C := R_M) (T := T_M) (N := 25) hx hb hts in_M hown h0.1 hw.1 0 rfl rfl 12 (by decide) (hg (.fieldLink R_M 42 "SecureEntryModel" "inner" "I") (by decide +kernel)) (fun _ h9 => h9) rfl d_M_second_69 ?_
        refine lv_imul hx hb d_M_second_72 ?_
        refine lv_iconst (v := 3) hx hb d_M_second_73 (by decide) ?_
        refine lv_iadd hx hb d_M_second_74 ?_
        refine z_Vi0 (As := [.int ((4 * (st.1 12)) + 3)]) (v := (m_valid (mS st 1 ((st.1 1) + 1)) ((4 * (st.1 12)) + 3))) ⟨hx, hb, hml, hown, hts⟩ (c_M_valid l G bd (mS st 1 ((st.1 1) + 1)) wr _ ((4 * (st.1 12)) + 3) hI (z_m3 hi6)) (cwV 1 hts gV_M_96 rfl rfl rfl (by decide +kernel) ⟨Nat.le_of_ble_eq_true rfl, Nat.le_of_ble_eq_true rfl⟩) h0 hw 0 rfl rfl rfl rfl hl.1 rfl (Nat.le_of_ble_eq_true rfl) d_M_second_75 ⟨Nat.le_of_ble_eq_true rfl, Nat.le_of_ble_eq_true rfl⟩ (fun H locs hw => ?_)
        refine lv_if_eq (tgt := 82) hx hb d_M_second_78 (by decide) (fun c_78 => ?_) (fun c_78 => ?_)
        · refine lv_aload_n hx hb d_M_second_82 rfl (lv_at hl 0 rfl) ?_
          refine lv_bipush (v := 11) hx hb d_M_second_83 (by decide) ?_
          refine lv_aload_n hx hb d_M_second_85 rfl (lv_at hl 0 rfl) ?_
          refine va_get (D := G.1) (ci := 3) (v := .int (st.1 12)) (C := R_M) (T := T_M) (N := 25) hx hb hts in_M hown h0.1 hw.1 0 rfl rfl 12 (by decide) (hg (.fieldLink R_M 42 "SecureEntryModel" "inner" "I") (by decide +kernel)) (fun _ h9 => h9) rfl d_M_second_86 ?_
          refine z_Vv0 (As := [.int 11, .int (st.1 12)]) (ws1 := (wM bd G (m_note (mS st 1 ((st.1 1) + 1)) 11 (st.1 12)) ++ wr)) ⟨hx, hb, hml, hown, hts⟩ (c_M_note l G bd (mS st 1 ((st.1 1) + 1)) wr _ 11 (st.1 12) hI (Or.inr hi6)) (cwV 2 hts gV_M_122 rfl rfl rfl (by decide +kernel) ⟨Nat.le_of_ble_eq_true rfl, Nat.le_of_ble_eq_true rfl⟩) h0 hw 0 rfl rfl rfl rfl hl.1 rfl (Nat.le_of_ble_eq_true rfl) d_M_second_89 ⟨Nat.le_of_ble_eq_true rfl, Nat.le_of_ble_eq_true rfl⟩ (fun H locs hw => ?_)
          have hI : InvM (m_note (mS st 1 ((st.1 1) + 1)) 11 (st.1 12)) := inv_m_note hI
          refine lv_aload_n hx hb d_M_second_92 rfl (lv_at hl 0 rfl) ?_
          refine lv_iconst (v := 0) hx hb d_M_second_93 (by decide) ?_
          refine va_put (D := G.1) (ci := 3) (v := .int 0) (ty := .int) (C := R_M) (T := T_M) (N := 25) hx hb hts in_M ty_M ty_M_ok n_M hown h0.1 hw.1 hw.2.1 hw.2.2 0 rfl rfl 16 (by decide) (hg (.fieldLink R_M 116 "SecureEntryModel" "role" "I") (by decide +kernel)) (fun _ h9 => h9) rfl (by decide +kernel) rfl rfl (Nat.le_of_ble_eq_true rfl) d_M_second_94 (fun H locs hP hD hS => ?_)
          have hI : InvM (mS (m_note (mS st 1 ((st.1 1) + 1)) 11 (st.1 12)) 16 0) := invm_mS hI (by decide)
          have hw : z_wl G (wM bd G st ++ wr) s (wM bd G (mS (m_note (mS st 1 ((st.1 1) + 1)) 11 (st.1 12)) 16 0) ++ wr) H locs := ⟨hP, hD, hS⟩
          exact z_vret (wf := fun _ : Unit => (wM bd G (m_second st) ++ wr)) (u := ()) hx hb hr hlocks h0 (by rw [m_second, if_neg c_15, if_neg c_23, if_neg c_63, if_pos c_78]; exact hw) trivial (Nat.le_of_ble_eq_true rfl) (Nat.le_of_ble_eq_true rfl) d_M_second_97
        · exact z_vret (wf := fun _ : Unit => (wM bd G (m_second st) ++ wr)) (u := ()) hx hb hr hlocks h0 (by rw [m_second, if_neg c_15, if_neg c_23, if_neg c_63, if_neg c_78]; exact hw) trivial (Nat.le_of_ble_eq_true rfl) (Nat.le_of_ble_eq_true rfl) d_M_second_81
    · refine lv_aload_n hx hb d_M_second_26 rfl (lv_at hl 0 rfl) ?_
      refine va_get (D := G.1) (ci := 3) (v := .int ((st.1 1) + 1)) (C := R_M) (T := T_M) (N := 25) hx hb hts in_M hown h0.1 hw.1 0 rfl rfl 1 (by decide) (hg (.fieldLink R_M 93 "SecureEntryModel" "time" "I") (by decide +kernel)) (fun _ h9 => h9) rfl d_M_second_27 ?_
      refine lv_aload_n hx hb d_M_second_30 rfl (lv_at hl 0 rfl) ?_
      refine va_get (D := G.1) (ci := 3) (v := .int (st.1 15)) (C := R_M) (T := T_M) (N := 25) hx hb hts in_M hown h0.1 hw.1 0 rfl rfl 15 (by decide) (hg (.fieldLink R_M 119 "SecureEntryModel" "since" "I") (by decide +kernel)) (fun _ h9 => h9) rfl d_M_second_31 ?_
      refine lv_isub hx hb d_M_second_34 ?_
      refine lv_aload_n hx hb d_M_second_35 rfl (lv_at hl 0 rfl) ?_
      refine va_get (D := G.1) (ci := 3) (v := .ref (bd 2)) (C := R_M) (T := T_M) (N := 25) hx hb hts in_M hown h0.1 hw.1 0 rfl rfl 2 (by decide) (hg (.fieldLink R_M 7 "SecureEntryModel" "config" "[I") (by decide +kernel)) (fun _ h9 => h9) rfl d_M_second_36 ?_
      refine lv_iconst (v := 2) hx hb d_M_second_39 (by decide) ?_
      refine va_iald (f := (st.2 2)) hx hb h0.1 hw.1 1 0 rfl rfl (show vp_in 2 6 by unfold vp_in; decide) d_M_second_40 ?_
      refine lv_icmp_lt (tgt := 59) hx hb d_M_second_41 (by decide) (fun c_41 => ?_) (fun c_41 => ?_)
      · have hri : RI (mS st 1 ((st.1 1) + 1)) := by first | exact ri_mS hri (by decide) | exact ri_note (ri_become (ri_mS hri (by decide)))
        refine lv_aload_n hx hb d_M_second_59 rfl (lv_at hl 0 rfl) ?_
        refine va_get (D := G.1) (ci := 3) (v := .int (st.1 16)) (C := R_M) (T := T_M) (N := 25) hx hb hts in_M hown h0.1 hw.1 0 rfl rfl 16 (by decide) (hg (.fieldLink R_M 116 "SecureEntryModel" "role" "I") (by decide +kernel)) (fun _ h9 => h9) rfl d_M_second_60 ?_
        refine lv_if_eq (tgt := 81) hx hb d_M_second_63 (by decide) (fun c_63 => ?_) (fun c_63 => ?_)
        · exact z_vret (wf := fun _ : Unit => (wM bd G (m_second st) ++ wr)) (u := ()) hx hb hr hlocks h0 (by rw [m_second, if_neg c_15, if_pos c_23, if_pos c_41, if_pos c_63]; exact hw) trivial (Nat.le_of_ble_eq_true rfl) (Nat.le_of_ble_eq_true rfl) d_M_second_81
        · have hi6 : vp_in (st.1 12) 6 := hri c_63
          refine lv_aload_n hx hb d_M_second_66 rfl (lv_at hl 0 rfl) ?_
          refine lv_iconst (v := 4) hx hb d_M_second_67 (by decide) ?_
          refine lv_aload_n hx hb d_M_second_68 rfl (lv_at hl 0 rfl) ?_
          refine va_get (D := G.1) (ci := 3) (v := .int (st.1 12)) (C := R_M) (T := T_M) (N := 25) hx hb hts in_M hown h0.1 hw.1 0 rfl rfl 12 (by decide) (hg (.fieldLink R_M 42 "SecureEntryModel" "inner" "I") (by decide +kernel)) (fun _ h9 => h9) rfl d_M_second_69 ?_
          refine lv_imul hx hb d_M_second_72 ?_
          refine lv_iconst (v := 3) hx hb d_M_second_73 (by decide) ?_
          refine lv_iadd hx hb d_M_second_74 ?_
          refine z_Vi0 (As := [.int ((4 * (st.1 12)) + 3)]) (v := (m_valid (mS st 1 ((st.1 1) + 1)) ((4 * (st.1 12)) + 3))) ⟨hx, hb, hml, hown, hts⟩ (c_M_valid l G bd (mS st 1 ((st.1 1) + 1)) wr _ ((4 * (st.1 12)) + 3) hI (z_m3 hi6)) (cwV 1 hts gV_M_96 rfl rfl rfl (by decide +kernel) ⟨Nat.le_of_ble_eq_true rfl, Nat.le_of_ble_eq_true rfl⟩) h0 hw 0 rfl rfl rfl rfl hl.1 rfl (Nat.le_of_ble_eq_true rfl) d_M_second_75 ⟨Nat.le_of_ble_eq_true rfl, Nat.le_of_ble_eq_true rfl⟩ (fun H locs hw => ?_)
          refine lv_if_eq (tgt := 82) hx hb d_M_second_78 (by decide) (fun c_78 => ?_) (fun c_78 => ?_)
          · refine lv_aload_n hx hb d_M_second_82 rfl (lv_at hl 0 rfl) ?_
            refine lv_bipush (v := 11) hx hb d_M_second_83 (by decide) ?_
            refine lv_aload_n hx hb d_M_second_85 rfl (lv_at hl 0 rfl) ?_
            refine va_get (D := G.1) (ci := 3) (v := .int (st.1 12)) (C := R_M) (T := T_M) (N := 25) hx hb hts in_M hown h0.1 hw.1 0 rfl rfl 12 (by decide) (hg (.fieldLink R_M 42 "SecureEntryModel" "inner" "I") (by decide +kernel)) (fun _ h9 => h9) rfl d_M_second_86 ?_
            refine z_Vv0 (As := [.int 11, .int (st.1 12)]) (ws1 := (wM bd G (m_note (mS st 1 ((st.1 1) + 1)) 11 (st.1 12)) ++ wr)) ⟨hx, hb, hml, hown, hts⟩ (c_M_note l G bd (mS st 1 ((st.1 1) + 1)) wr _ 11 (st.1 12) hI (Or.inr hi6)) (cwV 2 hts gV_M_122 rfl rfl rfl (by decide +kernel) ⟨Nat.le_of_ble_eq_true rfl, Nat.le_of_ble_eq_true rfl⟩) h0 hw 0 rfl rfl rfl rfl hl.1 rfl (Nat.le_of_ble_eq_true rfl) d_M_second_89 ⟨Nat.le_of_ble_eq_true rfl, Nat.le_of_ble_eq_true rfl⟩ (fun H locs hw => ?_)
            have hI : InvM (m_note (mS st 1 ((st.1 1) + 1)) 11 (st.1 12)) := inv_m_note hI
            refine lv_aload_n hx hb d_M_second_92 rfl (lv_at hl 0 rfl) ?_
            refine lv_iconst (v := 0) hx hb d_M_second_93 (by decide) ?_
            refine va_put (D := G.1) (ci := 3) (v := .int 0) (ty := .int) (C := R_M) (T := T_M) (N := 25) hx hb hts in_M ty_M ty_M_ok n_M hown h0.1 hw.1 hw.2.1 hw.2.2 0 rfl rfl 16 (by decide) (hg (.fieldLink R_M 116 "SecureEntryModel" "role" "I") (by decide +kernel)) (fun _ h9 => h9) rfl (by decide +kernel) rfl rfl (Nat.le_of_ble_eq_true rfl) d_M_second_94 (fun H locs hP hD hS => ?_)
            have hI : InvM (mS (m_note (mS st 1 ((st.1 1) + 1)) 11 (st.1 12)) 16 0) := invm_mS hI (by decide)
            have hw : z_wl G (wM bd G st ++ wr) s (wM bd G (mS (m_note (mS st 1 ((st.1 1) + 1)) 11 (st.1 12)) 16 0) ++ wr) H locs := ⟨hP, hD, hS⟩
            exact z_vret (wf := fun _ : Unit => (wM bd G (m_second st) ++ wr)) (u := ()) hx hb hr hlocks h0 (by rw [m_second, if_neg c_15, if_pos c_23, if_pos c_41, if_neg c_63, if_pos c_78]; exact hw) trivial (Nat.le_of_ble_eq_true rfl) (Nat.le_of_ble_eq_true rfl) d_M_second_97
          · exact z_vret (wf := fun _ : Unit => (wM bd G (m_second st) ++ wr)) (u := ()) hx hb hr hlocks h0 (by rw [m_second, if_neg c_15, if_pos c_23, if_pos c_41, if_neg c_63, if_neg c_78]; exact hw) trivial (Nat.le_of_ble_eq_true rfl) (Nat.le_of_ble_eq_true rfl) d_M_second_81
      · refine lv_aload_n hx hb d_M_second_44 rfl (lv_at hl 0 rfl) ?_
        refine lv_iconst (v := 3) hx hb d_M_second_45 (by decide) ?_
        refine z_Vv0 (As := [.int 3]) (ws1 := (wM bd G (m_become (mS st 1 ((st.1 1) + 1)) 3) ++ wr)) ⟨hx, hb, hml, hown, hts⟩ (c_M_become l G bd (mS st 1 ((st.1 1) + 1)) wr _ 3) (cwV 1 hts gV_M_128 rfl rfl rfl (by decide +kernel) ⟨Nat.le_of_ble_eq_true rfl, Nat.le_of_ble_eq_true rfl⟩) h0 hw 0 rfl rfl rfl rfl hl.1 rfl (Nat.le_of_ble_eq_true rfl) d_M_second_46 ⟨Nat.le_of_ble_eq_true rfl, Nat.le_of_ble_eq_true rfl⟩ (fun H locs hw => ?_)
        have hI : InvM (m_become (mS st 1 ((st.1 1) + 1)) 3) := inv_m_become hI
        refine lv_aload_n hx hb d_M_second_49 rfl (lv_at hl 0 rfl) ?_
        refine lv_bipush (v := 6) hx hb d_M_second_50 (by decide) ?_
        refine lv_aload_n hx hb d_M_second_52 rfl (lv_at hl 0 rfl) ?_
        refine va_get (D := G.1) (ci := 3) (v := .int ((m_become (mS st 1 ((st.1 1) + 1)) 3).1 11)) (C := R_M) (T := T_M) (N := 25) hx hb hts in_M hown h0.1 hw.1 0 rfl rfl 11 (by decide) (hg (.fieldLink R_M 38 "SecureEntryModel" "outer" "I") (by decide +kernel)) (fun _ h9 => h9) rfl d_M_second_53 ?_
        refine z_Vv0 (As := [.int 6, .int ((m_become (mS st 1 ((st.1 1) + 1)) 3).1 11)]) (ws1 := (wM bd G (m_note (m_become (mS st 1 ((st.1 1) + 1)) 3) 6 ((m_become (mS st 1 ((st.1 1) + 1)) 3).1 11)) ++ wr)) ⟨hx, hb, hml, hown, hts⟩ (c_M_note l G bd (m_become (mS st 1 ((st.1 1) + 1)) 3) wr _ 6 ((m_become (mS st 1 ((st.1 1) + 1)) 3).1 11) hI hI.2.2.1) (cwV 2 hts gV_M_122 rfl rfl rfl (by decide +kernel) ⟨Nat.le_of_ble_eq_true rfl, Nat.le_of_ble_eq_true rfl⟩) h0 hw 0 rfl rfl rfl rfl hl.1 rfl (Nat.le_of_ble_eq_true rfl) d_M_second_56 ⟨Nat.le_of_ble_eq_true rfl, Nat.le_of_ble_eq_true rfl⟩ (fun H locs hw => ?_)
        have hI : InvM (m_note (m_become (mS st 1 ((st.1 1) + 1)) 3) 6 ((m_become (mS st 1 ((st.1 1) + 1)) 3).1 11)) := inv_m_note hI
        have hri : RI (m_note (m_become (mS st 1 ((st.1 1) + 1)) 3) 6 ((m_become (mS st 1 ((st.1 1) + 1)) 3).1 11)) := by first | exact ri_mS hri (by decide) | exact ri_note (ri_become (ri_mS hri (by decide)))
        refine lv_aload_n hx hb d_M_second_59 rfl (lv_at hl 0 rfl) ?_
        refine va_get (D := G.1) (ci := 3) (v := .int ((m_note (m_become (mS st 1 ((st.1 1) + 1)) 3) 6 ((m_become (mS st 1 ((st.1 1) + 1)) 3).1 11)).1 16)) (C := R_M) (T := T_M) (N := 25) hx hb hts in_M hown h0.1 hw.1 0 rfl rfl 16 (by decide) (hg (.fieldLink R_M 116 "SecureEntryModel" "role" "I") (by decide +kernel)) (fun _ h9 => h9) rfl d_M_second_60 ?_
        refine lv_if_eq (tgt := 81) hx hb d_M_second_63 (by decide) (fun c_63 => ?_) (fun c_63 => ?_)
        · exact z_vret (wf := fun _ : Unit => (wM bd G (m_second st) ++ wr)) (u := ()) hx hb hr hlocks h0 (by rw [m_second, if_neg c_15, if_pos c_23, if_neg c_41, if_pos c_63]; exact hw) trivial (Nat.le_of_ble_eq_true rfl) (Nat.le_of_ble_eq_true rfl) d_M_second_81
        · have hi6 : vp_in ((m_note (m_become (mS st 1 ((st.1 1) + 1)) 3) 6 ((m_become (mS st 1 ((st.1 1) + 1)) 3).1 11)).1 12) 6 := hri c_63
          refine lv_aload_n hx hb d_M_second_66 rfl (lv_at hl 0 rfl) ?_
          refine lv_iconst (v := 4) hx hb d_M_second_67 (by decide) ?_
          refine lv_aload_n hx hb d_M_second_68 rfl (lv_at hl 0 rfl) ?_
          refine va_get (D := G.1) (ci := 3) (v := .int ((m_note (m_become (mS st 1 ((st.1 1) + 1)) 3) 6 ((m_become (mS st 1 ((st.1 1) + 1)) 3).1 11)).1 12)) (C := R_M) (T := T_M) (N := 25) hx hb hts in_M hown h0.1 hw.1 0 rfl rfl 12 (by decide) (hg (.fieldLink R_M 42 "SecureEntryModel" "inner" "I") (by decide +kernel)) (fun _ h9 => h9) rfl d_M_second_69 ?_
          refine lv_imul hx hb d_M_second_72 ?_
          refine lv_iconst (v := 3) hx hb d_M_second_73 (by decide) ?_
          refine lv_iadd hx hb d_M_second_74 ?_
          refine z_Vi0 (As := [.int ((4 * ((m_note (m_become (mS st 1 ((st.1 1) + 1)) 3) 6 ((m_become (mS st 1 ((st.1 1) + 1)) 3).1 11)).1 12)) + 3)]) (v := (m_valid (m_note (m_become (mS st 1 ((st.1 1) + 1)) 3) 6 ((m_become (mS st 1 ((st.1 1) + 1)) 3).1 11)) ((4 * ((m_note (m_become (mS st 1 ((st.1 1) + 1)) 3) 6 ((m_become (mS st 1 ((st.1 1) + 1)) 3).1 11)).1 12)) + 3))) ⟨hx, hb, hml, hown, hts⟩ (c_M_valid l G bd (m_note (m_become (mS st 1 ((st.1 1) + 1)) 3) 6 ((m_become (mS st 1 ((st.1 1) + 1)) 3).1 11)) wr _ ((4 * ((m_note (m_become (mS st 1 ((st.1 1) + 1)) 3) 6 ((m_become (mS st 1 ((st.1 1) + 1)) 3).1 11)).1 12)) + 3) hI (z_m3 hi6)) (cwV 1 hts gV_M_96 rfl rfl rfl (by decide +kernel) ⟨Nat.le_of_ble_eq_true rfl, Nat.le_of_ble_eq_true rfl⟩) h0 hw 0 rfl rfl rfl rfl hl.1 rfl (Nat.le_of_ble_eq_true rfl) d_M_second_75 ⟨Nat.le_of_ble_eq_true rfl, Nat.le_of_ble_eq_true rfl⟩ (fun H locs hw => ?_)
          refine lv_if_eq (tgt := 82) hx hb d_M_second_78 (by decide) (fun c_78 => ?_) (fun c_78 => ?_)
          · refine lv_aload_n hx hb d_M_second_82 rfl (lv_at hl 0 rfl) ?_
            refine lv_bipush (v := 11) hx hb d_M_second_83 (by decide) ?_
            refine lv_aload_n hx hb d_M_second_85 rfl (lv_at hl 0 rfl) ?_
            refine va_get (D := G.1) (ci := 3) (v := .int ((m_note (m_become (mS st 1 ((st.1 1) + 1)) 3) 6 ((m_become (mS st 1 ((st.1 1) + 1)) 3).1 11)).1 12)) (C := R_M) (T := T_M) (N := 25) hx hb hts in_M hown h0.1 hw.1 0 rfl rfl 12 (by decide) (hg (.fieldLink R_M 42 "SecureEntryModel" "inner" "I") (by decide +kernel)) (fun _ h9 => h9) rfl d_M_second_86 ?_
            refine z_Vv0 (As := [.int 11, .int ((m_note (m_become (mS st 1 ((st.1 1) + 1)) 3) 6 ((m_become (mS st 1 ((st.1 1) + 1)) 3).1 11)).1 12)]) (ws1 := (wM bd G (m_note (m_note (m_become (mS st 1 ((st.1 1) + 1)) 3) 6 ((m_become (mS st 1 ((st.1 1) + 1)) 3).1 11)) 11 ((m_note (m_become (mS st 1 ((st.1 1) + 1)) 3) 6 ((m_become (mS st 1 ((st.1 1) + 1)) 3).1 11)).1 12)) ++ wr)) ⟨hx, hb, hml, hown, hts⟩ (c_M_note l G bd (m_note (m_become (mS st 1 ((st.1 1) + 1)) 3) 6 ((m_become (mS st 1 ((st.1 1) + 1)) 3).1 11)) wr _ 11 ((m_note (m_become (mS st 1 ((st.1 1) + 1)) 3) 6 ((m_become (mS st 1 ((st.1 1) + 1)) 3).1 11)).1 12) hI (Or.inr hi6)) (cwV 2 hts gV_M_122 rfl rfl rfl (by decide +kernel) ⟨Nat.le_of_ble_eq_true rfl, Nat.le_of_ble_eq_true rfl⟩) h0 hw 0 rfl rfl rfl rfl hl.1 rfl (Nat.le_of_ble_eq_true rfl) d_M_second_89 ⟨Nat.le_of_ble_eq_true rfl, Nat.le_of_ble_eq_true rfl⟩ (fun H locs hw => ?_)
            have hI : InvM (m_note (m_note (m_become (mS st 1 ((st.1 1) + 1)) 3) 6 ((m_become (mS st 1 ((st.1 1) + 1)) 3).1 11)) 11 ((m_note (m_become (mS st 1 ((st.1 1) + 1)) 3) 6 ((m_become (mS st 1 ((st.1 1) + 1)) 3).1 11)).1 12)) := inv_m_note hI
            refine lv_aload_n hx hb d_M_second_92 rfl (lv_at hl 0 rfl) ?_
            refine lv_iconst (v := 0) hx hb d_M_second_93 (by decide) ?_
            refine va_put (D := G.1) (ci := 3) (v := .int 0) (ty := .int) (C := R_M) (T := T_M) (N := 25) hx hb hts in_M ty_M ty_M_ok n_M hown h0.1 hw.1 hw.2.1 hw.2.2 0 rfl rfl 16 (by decide) (hg (.fieldLink R_M 116 "SecureEntryModel" "role" "I") (by decide +kernel)) (fun _ h9 => h9) rfl (by decide +kernel) rfl rfl (Nat.le_of_ble_eq_true rfl) d_M_second_94 (fun H locs hP hD hS => ?_)
            have hI : InvM (mS (m_note (m_note (m_become (mS st 1 ((st.1 1) + 1)) 3) 6 ((m_become (mS st 1 ((st.1 1) + 1)) 3).1 11)) 11 ((m_note (m_become (mS st 1 ((st.1 1) + 1)) 3) 6 ((m_become (mS st 1 ((st.1 1) + 1)) 3).1 11)).1 12)) 16 0) := invm_mS hI (by decide)
            have hw : z_wl G (wM bd G st ++ wr) s (wM bd G (mS (m_note (m_note (m_become (mS st 1 ((st.1 1) + 1)) 3) 6 ((m_become (mS st 1 ((st.1 1) + 1)) 3).1 11)) 11 ((m_note (m_become (mS st 1 ((st.1 1) + 1)) 3) 6 ((m_become (mS st 1 ((st.1 1) + 1)) 3).1 11)).1 12)) 16 0) ++ wr) H locs := ⟨hP, hD, hS⟩
            exact z_vret (wf := fun _ : Unit => (wM bd G (m_second st) ++ wr)) (u := ()) hx hb hr hlocks h0 (by rw [m_second, if_neg c_15, if_pos c_23, if_neg c_41, if_neg c_63, if_pos c_78]; exact hw) trivial (Nat.le_of_ble_eq_true rfl) (Nat.le_of_ble_eq_true rfl) d_M_second_97
          · exact z_vret (wf := fun _ : Unit => (wM bd G (m_second st) ++ wr)) (u := ()) hx hb hr hlocks h0 (by rw [m_second, if_neg c_15, if_pos c_23, if_neg c_41, if_neg c_63, if_neg c_78]; exact hw) trivial (Nat.le_of_ble_eq_true rfl) (Nat.le_of_ble_eq_true rfl) d_M_second_81
set_option maxHeartbeats 4000000 in
set_option maxRecDepth 100000 in
theorem c_M_entry (l : Launch) (G : gG) (bd : Nat → Nat) (st : MS) (wr : va_W) (sz : Nat) (p1 : Int32) (p2 : Int32) (hI : InvM st) : Met l y_M_entry w_M_entry { frames := 1, cells := 0, slots := 0, locals := 21 } (va_Pc [.ref (bd 0), .int p1, .int p2] (z_pre G (wM bd G st ++ wr) sz)) (z_Qi0 G (wM bd G st ++ wr) sz (wM bd G (m_entry st p1 p2).2 ++ wr) (m_entry st p1 p2).1) 0 0 (va_A (wM bd G st ++ wr) sz) := by
  refine Met.ofW (cc := b_M_entry) (maxL := 3) (ret := (some .int)) (by decide) rfl ?_
  intro p e s m args below meth c s₁ B hml hv
  obtain ⟨rfl, hsz, hP, hK, hD0, ham⟩ := hv
  subst hsz
  have hx := B.exec
  have hb := B.bytes
  have hr := B.returns
  have hts : ∀ w ∈ goT, w.before _ s = true := fun w h => atoms_spec (ws := w_M_entry) B.pre w (List.mem_cons_of_mem _ h)
  have hg : ∀ w, goB w = true → w.before _ s = true := fun w h => hts w (goI h)
  have hown : s.vm.findClass R_M = some m.cls := findClass_of_methodNamed B.named
  have hlocks := B.notSynchronized
  have h0 : z_st G (wM bd G st ++ wr) s := ⟨hK, ham⟩
  have hw : z_wl G (wM bd G st ++ wr) s (wM bd G st ++ wr) s.heap [] := z_0 hP hD0
  have hl := lv_entry ([.ref (bd 0), .int p1, .int p2]) (n := 3) (Nat.le_of_ble_eq_true rfl)
  rw [lg_entry_eq]
  generalize (lg_sl ([.ref (bd 0), .int p1, .int p2]) ++ List.replicate (3 - (lg_sl ([.ref (bd 0), .int p1, .int p2])).length) Slot.unset).toArray = ls at hl ⊢
  have hl : lv_has ls 3 [(0, .ref (bd 0)), (1, .int p1), (2, .int p2)] := hl
  refine lv_aload_n hx hb d_M_entry_0 rfl (lv_at hl 0 rfl) ?_
  refine lv_iconst (v := 0) hx hb d_M_entry_1 (by decide) ?_
  refine va_put (D := G.1) (ci := 3) (v := .int 0) (ty := .int) (C := R_M) (T := T_M) (N := 25) hx hb hts in_M ty_M ty_M_ok n_M hown h0.1 hw.1 hw.2.1 hw.2.2 0 rfl rfl 0 (by decide) (hg (.fieldLink R_M 54 "SecureEntryModel" "thrown" "I") (by decide +kernel)) (fun _ h9 => h9) rfl (by decide +kernel) rfl rfl (Nat.le_of_ble_eq_true rfl) d_M_entry_2 (fun H locs hP hD hS => ?_)
  have hI : InvM (mS st 0 0) := invm_mS hI (by decide)
  have hw : z_wl G (wM bd G st ++ wr) s (wM bd G (mS st 0 0) ++ wr) H locs := ⟨hP, hD, hS⟩
  refine lv_iload_n hx hb d_M_entry_5 rfl (lv_at hl 1 rfl) ?_
  refine lv_if_lt (tgt := 17) hx hb d_M_entry_6 (by decide) (fun c_6 => ?_) (fun c_6 => ?_)
  · refine lv_aload_n hx hb d_M_entry_17 rfl (lv_at hl 0 rfl) ?_
    refine lv_iconst (v := 1) hx hb d_M_entry_18 (by decide) ?_
    refine z_Vi0 (As := [.int 1]) (v := 0) (ws1 := (wM bd G (mS (mS st 0 0) 0 1) ++ wr)) ⟨hx, hb, hml, hown, hts⟩ (c_M_raise l G bd (mS st 0 0) wr _ 1) (cwV 1 hts gV_M_81 rfl rfl rfl (by decide +kernel) ⟨Nat.le_of_ble_eq_true rfl, Nat.le_of_ble_eq_true rfl⟩) h0 hw 0 rfl rfl rfl rfl hl.1 rfl (Nat.le_of_ble_eq_true rfl) d_M_entry_19 ⟨Nat.le_of_ble_eq_true rfl, Nat.le_of_ble_eq_true rfl⟩ (fun H locs hw => ?_)
    have hI : InvM (mS (mS st 0 0) 0 1) := invm_mS hI (by decide)
    exact z_iret (wf := fun _ : Unit => (wM bd G (m_entry st p1 p2).2 ++ wr)) (post := fun r _ => r = (m_entry st p1 p2).1) (u := ()) hx hb hr hlocks h0 (by rw [m_entry, if_pos c_6]; exact hw) rfl (by rw [m_entry, if_pos c_6]) (Nat.le_of_ble_eq_true rfl) (Nat.le_of_ble_eq_true rfl) d_M_entry_22
  · refine lv_iload_n hx hb d_M_entry_9 rfl (lv_at hl 1 rfl) ?_
    refine lv_aload_n hx hb d_M_entry_10 rfl (lv_at hl 0 rfl) ?_
    refine va_get (D := G.1) (ci := 3) (v := .int (st.1 23)) (C := R_M) (T := T_M) (N := 25) hx hb hts in_M hown h0.1 hw.1 0 rfl rfl 23 (by decide) (hg (.fieldLink R_M 103 "SecureEntryModel" "logged" "I") (by decide +kernel)) (fun _ h9 => h9) rfl d_M_entry_11 ?_
    refine lv_icmp_lt (tgt := 23) hx hb d_M_entry_14 (by decide) (fun c_14 => ?_) (fun c_14 => ?_)
    · have hp1 : vp_in p1 16 := entm hI c_6 c_14
      refine lv_iload_n hx hb d_M_entry_23 rfl (lv_at hl 2 rfl) ?_
      rcases Classical.em (p2 = 0) with c_24_0 | c_24_0
      · refine lv_tableIn (tgt := 52) hx hb d_M_entry_24 (by rw [c_24_0]; decide) (by rw [c_24_0]; decide) (by rw [c_24_0]; rfl) (by decide) ?_
        refine lv_aload_n hx hb d_M_entry_52 rfl (lv_at hl 0 rfl) ?_
        refine va_get (D := G.1) (ci := 3) (v := .ref (bd 20)) (C := R_M) (T := T_M) (N := 25) hx hb hts in_M hown h0.1 hw.1 0 rfl rfl 20 (by decide) (hg (.fieldLink R_M 45 "SecureEntryModel" "logKind" "[I") (by decide +kernel)) (fun _ h9 => h9) rfl d_M_entry_53 ?_
        refine lv_iload_n hx hb d_M_entry_56 rfl (lv_at hl 1 rfl) ?_
        refine va_iald (f := (st.2 20)) hx hb h0.1 hw.1 10 0 rfl rfl hp1 d_M_entry_57 ?_
        exact z_iret (wf := fun _ : Unit => (wM bd G (m_entry st p1 p2).2 ++ wr)) (post := fun r _ => r = (m_entry st p1 p2).1) (u := ()) hx hb hr hlocks h0 (by rw [m_entry, if_neg c_6, if_pos c_14, if_pos c_24_0]; exact hw) rfl (by rw [m_entry, if_neg c_6, if_pos c_14, if_pos c_24_0]) (Nat.le_of_ble_eq_true rfl) (Nat.le_of_ble_eq_true rfl) d_M_entry_58
      · skip
        rcases Classical.em (p2 = 1) with c_24_1 | c_24_1
        · refine lv_tableIn (tgt := 59) hx hb d_M_entry_24 (by rw [c_24_1]; decide) (by rw [c_24_1]; decide) (by rw [c_24_1]; rfl) (by decide) ?_
          refine lv_aload_n hx hb d_M_entry_59 rfl (lv_at hl 0 rfl) ?_
          refine va_get (D := G.1) (ci := 3) (v := .ref (bd 21)) (C := R_M) (T := T_M) (N := 25) hx hb hts in_M hown h0.1 hw.1 0 rfl rfl 21 (by decide) (hg (.fieldLink R_M 48 "SecureEntryModel" "logTime" "[I") (by decide +kernel)) (fun _ h9 => h9) rfl d_M_entry_60 ?_
          refine lv_iload_n hx hb d_M_entry_63 rfl (lv_at hl 1 rfl) ?_
          refine va_iald (f := (st.2 21)) hx hb h0.1 hw.1 11 0 rfl rfl hp1 d_M_entry_64 ?_
          exact z_iret (wf := fun _ : Unit => (wM bd G (m_entry st p1 p2).2 ++ wr)) (post := fun r _ => r = (m_entry st p1 p2).1) (u := ()) hx hb hr hlocks h0 (by rw [m_entry, if_neg c_6, if_pos c_14, if_neg c_24_0, if_pos c_24_1]; exact hw) rfl (by rw [m_entry, if_neg c_6, if_pos c_14, if_neg c_24_0, if_pos c_24_1]) (Nat.le_of_ble_eq_true rfl) (Nat.le_of_ble_eq_true rfl) d_M_entry_65
        · skip
          rcases Classical.em (p2 = 2) with c_24_2 | c_24_2
          · refine lv_tableIn (tgt := 66) hx hb d_M_entry_24 (by rw [c_24_2]; decide) (by rw [c_24_2]; decide) (by rw [c_24_2]; rfl) (by decide) ?_
            refine lv_aload_n hx hb d_M_entry_66 rfl (lv_at hl 0 rfl) ?_
            refine va_get (D := G.1) (ci := 3) (v := .ref (bd 22)) (C := R_M) (T := T_M) (N := 25) hx hb hts in_M hown h0.1 hw.1 0 rfl rfl 22 (by decide) (hg (.fieldLink R_M 51 "SecureEntryModel" "logHolder" "[I") (by decide +kernel)) (fun _ h9 => h9) rfl d_M_entry_67 ?_
            refine lv_iload_n hx hb d_M_entry_70 rfl (lv_at hl 1 rfl) ?_
            refine va_iald (f := (st.2 22)) hx hb h0.1 hw.1 12 0 rfl rfl hp1 d_M_entry_71 ?_
            exact z_iret (wf := fun _ : Unit => (wM bd G (m_entry st p1 p2).2 ++ wr)) (post := fun r _ => r = (m_entry st p1 p2).1) (u := ()) hx hb hr hlocks h0 (by rw [m_entry, if_neg c_6, if_pos c_14, if_neg c_24_0, if_neg c_24_1, if_pos c_24_2]; exact hw) rfl (by rw [m_entry, if_neg c_6, if_pos c_14, if_neg c_24_0, if_neg c_24_1, if_pos c_24_2]) (Nat.le_of_ble_eq_true rfl) (Nat.le_of_ble_eq_true rfl) d_M_entry_72
          · refine lv_tableOut (tgt := 73) hx hb d_M_entry_24 (z_tout3 c_24_0 c_24_1 c_24_2) (by decide) ?_
            refine lv_aload_n hx hb d_M_entry_73 rfl (lv_at hl 0 rfl) ?_
            refine lv_iconst (v := 2) hx hb d_M_entry_74 (by decide) ?_
            refine z_Vi0 (As := [.int 2]) (v := 0) (ws1 := (wM bd G (mS (mS st 0 0) 0 2) ++ wr)) ⟨hx, hb, hml, hown, hts⟩ (c_M_raise l G bd (mS st 0 0) wr _ 2) (cwV 1 hts gV_M_81 rfl rfl rfl (by decide +kernel) ⟨Nat.le_of_ble_eq_true rfl, Nat.le_of_ble_eq_true rfl⟩) h0 hw 0 rfl rfl rfl rfl hl.1 rfl (Nat.le_of_ble_eq_true rfl) d_M_entry_75 ⟨Nat.le_of_ble_eq_true rfl, Nat.le_of_ble_eq_true rfl⟩ (fun H locs hw => ?_)
            have hI : InvM (mS (mS st 0 0) 0 2) := invm_mS hI (by decide)
            exact z_iret (wf := fun _ : Unit => (wM bd G (m_entry st p1 p2).2 ++ wr)) (post := fun r _ => r = (m_entry st p1 p2).1) (u := ()) hx hb hr hlocks h0 (by rw [m_entry, if_neg c_6, if_pos c_14, if_neg c_24_0, if_neg c_24_1, if_neg c_24_2]; exact hw) rfl (by rw [m_entry, if_neg c_6, if_pos c_14, if_neg c_24_0, if_neg c_24_1, if_neg c_24_2]) (Nat.le_of_ble_eq_true rfl) (Nat.le_of_ble_eq_true rfl) d_M_entry_78
    · refine lv_aload_n hx hb d_M_entry_17 rfl (lv_at hl 0 rfl) ?_
      refine lv_iconst (v := 1) hx hb d_M_entry_18 (by decide) ?_
      refine z_Vi0 (As := [.int 1]) (v := 0) (ws1 := (wM bd G (mS (mS st 0 0) 0 1) ++ wr)) ⟨hx, hb, hml, hown, hts⟩ (c_M_raise l G bd (mS st 0 0) wr _ 1) (cwV 1 hts gV_M_81 rfl rfl rfl (by decide +kernel) ⟨Nat.le_of_ble_eq_true rfl, Nat.le_of_ble_eq_true rfl⟩) h0 hw 0 rfl rfl rfl rfl hl.1 rfl (Nat.le_of_ble_eq_true rfl) d_M_entry_19 ⟨Nat.le_of_ble_eq_true rfl, Nat.le_of_ble_eq_true rfl⟩ (fun H locs hw => ?_)
      have hI : InvM (mS (mS st 0 0) 0 1) := invm_mS hI (by decide)
      exact z_iret (wf := fun _ : Unit => (wM bd G (m_entry st p1 p2).2 ++ wr)) (post := fun r _ => r = (m_entry st p1 p2).1) (u := ()) hx hb hr hlocks h0 (by rw [m_entry, if_neg c_6, if_neg c_14]; exact hw) rfl (by rw [m_entry, if_neg c_6, if_neg c_14]) (Nat.le_of_ble_eq_true rfl) (Nat.le_of_ble_eq_true rfl) d_M_entry_22
set_option maxHeartbeats 4000000 in
set_option maxRecDepth 100000 in
theorem c_M_certificate (l : Launch) (G : gG) (bd : Nat → Nat) (st : MS) (wr : va_W) (sz : Nat) (p1 : Int32) (p2 : Int32) (p3 : Int32) (hI : InvM st) : Met l y_M_certificate w_M_certificate { frames := 2, cells := 0, slots := 0, locals := 50 } (va_Pc [.ref (bd 0), .int p1, .int p2, .int p3] (z_pre G (wM bd G st ++ wr) sz)) (z_Qi0 G (wM bd G st ++ wr) sz (wM bd G (m_certificate st p1 p2 p3).2 ++ wr) (m_certificate st p1 p2 p3).1) 0 0 (va_A (wM bd G st ++ wr) sz) := by
  refine Met.ofW (cc := b_M_certificate) (maxL := 5) (ret := (some .int)) (by decide) rfl ?_
  intro p e s m args below meth c s₁ B hml hv
  obtain ⟨rfl, hsz, hP, hK, hD0, ham⟩ := hv
  subst hsz
  have hx := B.exec
  have hb := B.bytes
  have hr := B.returns
  have hts : ∀ w ∈ goT, w.before _ s = true := fun w h => atoms_spec (ws := w_M_certificate) B.pre w (List.mem_cons_of_mem _ h)
  have hg : ∀ w, goB w = true → w.before _ s = true := fun w h => hts w (goI h)
  have hown : s.vm.findClass R_M = some m.cls := findClass_of_methodNamed B.named
  have hlocks := B.notSynchronized
  have h0 : z_st G (wM bd G st ++ wr) s := ⟨hK, ham⟩
  have hw : z_wl G (wM bd G st ++ wr) s (wM bd G st ++ wr) s.heap [] := z_0 hP hD0
  have hl := lv_entry ([.ref (bd 0), .int p1, .int p2, .int p3]) (n := 5) (Nat.le_of_ble_eq_true rfl)
  rw [lg_entry_eq]
  generalize (lg_sl ([.ref (bd 0), .int p1, .int p2, .int p3]) ++ List.replicate (5 - (lg_sl ([.ref (bd 0), .int p1, .int p2, .int p3])).length) Slot.unset).toArray = ls at hl ⊢
  have hl : lv_has ls 5 [(0, .ref (bd 0)), (1, .int p1), (2, .int p2), (3, .int p3)] := hl
  refine lv_aload_n hx hb d_M_certificate_0 rfl (lv_at hl 0 rfl) ?_
  refine lv_iconst (v := 0) hx hb d_M_certificate_1 (by decide) ?_
  refine va_put (D := G.1) (ci := 3) (v := .int 0) (ty := .int) (C := R_M) (T := T_M) (N := 25) hx hb hts in_M ty_M ty_M_ok n_M hown h0.1 hw.1 hw.2.1 hw.2.2 0 rfl rfl 0 (by decide) (hg (.fieldLink R_M 54 "SecureEntryModel" "thrown" "I") (by decide +kernel)) (fun _ h9 => h9) rfl (by decide +kernel) rfl rfl (Nat.le_of_ble_eq_true rfl) d_M_certificate_2 (fun H locs hP hD hS => ?_)
  have hI : InvM (mS st 0 0) := invm_mS hI (by decide)
  have hw : z_wl G (wM bd G st ++ wr) s (wM bd G (mS st 0 0) ++ wr) H locs := ⟨hP, hD, hS⟩
  refine lv_iload_n hx hb d_M_certificate_5 rfl (lv_at hl 1 rfl) ?_
  refine lv_iconst (v := 0) hx hb d_M_certificate_6 (by decide) ?_
  refine lv_iconst (v := 5) hx hb d_M_certificate_7 (by decide) ?_
  refine z_Si0 (As := [.int p1, .int 0, .int 5]) (v := (m_inn p1 0 5)) ⟨hx, hb, hml, hown, hts⟩ (c_M_in l G (wM bd G (mS st 0 0) ++ wr) _ p1 0 5) (cwS 3 hts gS_M_57 rfl rfl rfl (by decide +kernel) ⟨Nat.le_of_ble_eq_true rfl, Nat.le_of_ble_eq_true rfl⟩) h0 hw rfl hl.1 rfl (Nat.le_of_ble_eq_true rfl) d_M_certificate_8 ⟨Nat.le_of_ble_eq_true rfl, Nat.le_of_ble_eq_true rfl⟩ (fun H locs hw => ?_)
  refine lv_if_ne (tgt := 20) hx hb d_M_certificate_11 (by decide) (fun c_11 => ?_) (fun c_11 => ?_)
  · refine lv_iload_n hx hb d_M_certificate_20 rfl (lv_at hl 2 rfl) ?_
    refine lv_iconst (v := 0) hx hb d_M_certificate_21 (by decide) ?_
    refine lv_iconst (v := 3) hx hb d_M_certificate_22 (by decide) ?_
    refine z_Si0 (As := [.int p2, .int 0, .int 3]) (v := (m_inn p2 0 3)) ⟨hx, hb, hml, hown, hts⟩ (c_M_in l G (wM bd G (mS st 0 0) ++ wr) _ p2 0 3) (cwS 3 hts gS_M_57 rfl rfl rfl (by decide +kernel) ⟨Nat.le_of_ble_eq_true rfl, Nat.le_of_ble_eq_true rfl⟩) h0 hw rfl hl.1 rfl (Nat.le_of_ble_eq_true rfl) d_M_certificate_23 ⟨Nat.le_of_ble_eq_true rfl, Nat.le_of_ble_eq_true rfl⟩ (fun H locs hw => ?_)
    refine lv_if_eq (tgt := 39) hx hb d_M_certificate_26 (by decide) (fun c_26 => ?_) (fun c_26 => ?_)
    · refine lv_aload_n hx hb d_M_certificate_39 rfl (lv_at hl 0 rfl) ?_
      refine lv_iconst (v := 2) hx hb d_M_certificate_40 (by decide) ?_
      refine z_Vi0 (As := [.int 2]) (v := 0) (ws1 := (wM bd G (mS (mS st 0 0) 0 2) ++ wr)) ⟨hx, hb, hml, hown, hts⟩ (c_M_raise l G bd (mS st 0 0) wr _ 2) (cwV 1 hts gV_M_81 rfl rfl rfl (by decide +kernel) ⟨Nat.le_of_ble_eq_true rfl, Nat.le_of_ble_eq_true rfl⟩) h0 hw 0 rfl rfl rfl rfl hl.1 rfl (Nat.le_of_ble_eq_true rfl) d_M_certificate_41 ⟨Nat.le_of_ble_eq_true rfl, Nat.le_of_ble_eq_true rfl⟩ (fun H locs hw => ?_)
      have hI : InvM (mS (mS st 0 0) 0 2) := invm_mS hI (by decide)
      exact z_iret (wf := fun _ : Unit => (wM bd G (m_certificate st p1 p2 p3).2 ++ wr)) (post := fun r _ => r = (m_certificate st p1 p2 p3).1) (u := ()) hx hb hr hlocks h0 (by rw [m_certificate, if_neg c_11, if_pos c_26]; exact hw) rfl (by rw [m_certificate, if_neg c_11, if_pos c_26]) (Nat.le_of_ble_eq_true rfl) (Nat.le_of_ble_eq_true rfl) d_M_certificate_44
    · refine lv_iload_n hx hb d_M_certificate_29 rfl (lv_at hl 3 rfl) ?_
      refine lv_iconst (v := 0) hx hb d_M_certificate_30 (by decide) ?_
      refine lv_bipush (v := 6) hx hb d_M_certificate_31 (by decide) ?_
      refine z_Si0 (As := [.int p3, .int 0, .int 6]) (v := (m_inn p3 0 6)) ⟨hx, hb, hml, hown, hts⟩ (c_M_in l G (wM bd G (mS st 0 0) ++ wr) _ p3 0 6) (cwS 3 hts gS_M_57 rfl rfl rfl (by decide +kernel) ⟨Nat.le_of_ble_eq_true rfl, Nat.le_of_ble_eq_true rfl⟩) h0 hw rfl hl.1 rfl (Nat.le_of_ble_eq_true rfl) d_M_certificate_33 ⟨Nat.le_of_ble_eq_true rfl, Nat.le_of_ble_eq_true rfl⟩ (fun H locs hw => ?_)
      refine lv_if_ne (tgt := 45) hx hb d_M_certificate_36 (by decide) (fun c_36 => ?_) (fun c_36 => ?_)
      · have hp1 : vp_in p1 6 := minn_in c_11 (by decide)
        have hp2 : vp_in p2 4 := minn_in c_26 (by decide)
        have hc : vp_in ((4 * p1) + p2) 24 := z_mx hp1 hp2
        refine lv_iconst (v := 4) hx hb d_M_certificate_45 (by decide) ?_
        refine lv_iload_n hx hb d_M_certificate_46 rfl (lv_at hl 1 rfl) ?_
        refine lv_imul hx hb d_M_certificate_47 ?_
        refine lv_iload_n hx hb d_M_certificate_48 rfl (lv_at hl 2 rfl) ?_
        refine lv_iadd hx hb d_M_certificate_49 ?_
        refine lv_istore (lv' := [(4, .int ((4 * p1) + p2)), (0, .ref (bd 0)), (1, .int p1), (2, .int p2), (3, .int p3)]) hx hb d_M_certificate_50 hl (by decide) rfl (fun ls hl => ?_)
        refine lv_aload_n hx hb d_M_certificate_52 rfl (lv_at hl 1 rfl) ?_
        refine va_get (D := G.1) (ci := 3) (v := .ref (bd 4)) (C := R_M) (T := T_M) (N := 25) hx hb hts in_M hown h0.1 hw.1 0 rfl rfl 4 (by decide) (hg (.fieldLink R_M 16 "SecureEntryModel" "has" "[Z") (by decide +kernel)) (fun _ h9 => h9) rfl d_M_certificate_53 ?_
        refine lv_iload hx hb d_M_certificate_56 (lv_at hl 0 rfl) ?_
        refine va_zald (f := (st.2 4)) hx hb h0.1 hw.1 3 3 rfl rfl hc d_M_certificate_58 ?_
        refine lv_if_ne (tgt := 68) hx hb d_M_certificate_59 (by decide) (fun c_59 => ?_) (fun c_59 => ?_)
        · refine lv_iload_n hx hb d_M_certificate_68 rfl (lv_at hl 4 rfl) ?_
          rcases Classical.em (p3 = 0) with c_69_0 | c_69_0
          · refine lv_tableIn (tgt := 112) hx hb d_M_certificate_69 (by rw [c_69_0]; decide) (by rw [c_69_0]; decide) (by rw [c_69_0]; rfl) (by decide) ?_
            refine lv_aload_n hx hb d_M_certificate_112 rfl (lv_at hl 1 rfl) ?_
            refine va_get (D := G.1) (ci := 3) (v := .ref (bd 5)) (C := R_M) (T := T_M) (N := 25) hx hb hts in_M hown h0.1 hw.1 0 rfl rfl 5 (by decide) (hg (.fieldLink R_M 20 "SecureEntryModel" "issuer" "[I") (by decide +kernel)) (fun _ h9 => h9) rfl d_M_certificate_113 ?_
            refine lv_iload hx hb d_M_certificate_116 (lv_at hl 0 rfl) ?_
            refine va_iald (f := (st.2 5)) hx hb h0.1 hw.1 4 0 rfl rfl hc d_M_certificate_118 ?_
            exact z_iret (wf := fun _ : Unit => (wM bd G (m_certificate st p1 p2 p3).2 ++ wr)) (post := fun r _ => r = (m_certificate st p1 p2 p3).1) (u := ()) hx hb hr hlocks h0 (by rw [m_certificate, if_neg c_11, if_neg c_26, if_neg c_36, if_neg c_59, if_pos c_69_0]; exact hw) rfl (by rw [m_certificate, if_neg c_11, if_neg c_26, if_neg c_36, if_neg c_59, if_pos c_69_0]) (Nat.le_of_ble_eq_true rfl) (Nat.le_of_ble_eq_true rfl) d_M_certificate_119
          · skip
            rcases Classical.em (p3 = 1) with c_69_1 | c_69_1
            · refine lv_tableIn (tgt := 120) hx hb d_M_certificate_69 (by rw [c_69_1]; decide) (by rw [c_69_1]; decide) (by rw [c_69_1]; rfl) (by decide) ?_
              refine lv_aload_n hx hb d_M_certificate_120 rfl (lv_at hl 1 rfl) ?_
              refine va_get (D := G.1) (ci := 3) (v := .ref (bd 6)) (C := R_M) (T := T_M) (N := 25) hx hb hts in_M hown h0.1 hw.1 0 rfl rfl 6 (by decide) (hg (.fieldLink R_M 23 "SecureEntryModel" "holder" "[I") (by decide +kernel)) (fun _ h9 => h9) rfl d_M_certificate_121 ?_
              refine lv_iload hx hb d_M_certificate_124 (lv_at hl 0 rfl) ?_
              refine va_iald (f := (st.2 6)) hx hb h0.1 hw.1 5 0 rfl rfl hc d_M_certificate_126 ?_
              exact z_iret (wf := fun _ : Unit => (wM bd G (m_certificate st p1 p2 p3).2 ++ wr)) (post := fun r _ => r = (m_certificate st p1 p2 p3).1) (u := ()) hx hb hr hlocks h0 (by rw [m_certificate, if_neg c_11, if_neg c_26, if_neg c_36, if_neg c_59, if_neg c_69_0, if_pos c_69_1]; exact hw) rfl (by rw [m_certificate, if_neg c_11, if_neg c_26, if_neg c_36, if_neg c_59, if_neg c_69_0, if_pos c_69_1]) (Nat.le_of_ble_eq_true rfl) (Nat.le_of_ble_eq_true rfl) d_M_certificate_127
            · skip
              rcases Classical.em (p3 = 2) with c_69_2 | c_69_2
              · refine lv_tableIn (tgt := 128) hx hb d_M_certificate_69 (by rw [c_69_2]; decide) (by rw [c_69_2]; decide) (by rw [c_69_2]; rfl) (by decide) ?_
                refine lv_aload_n hx hb d_M_certificate_128 rfl (lv_at hl 1 rfl) ?_
                refine va_get (D := G.1) (ci := 3) (v := .ref (bd 7)) (C := R_M) (T := T_M) (N := 25) hx hb hts in_M hown h0.1 hw.1 0 rfl rfl 7 (by decide) (hg (.fieldLink R_M 26 "SecureEntryModel" "value" "[I") (by decide +kernel)) (fun _ h9 => h9) rfl d_M_certificate_129 ?_
                refine lv_iload hx hb d_M_certificate_132 (lv_at hl 0 rfl) ?_
                refine va_iald (f := (st.2 7)) hx hb h0.1 hw.1 6 0 rfl rfl hc d_M_certificate_134 ?_
                exact z_iret (wf := fun _ : Unit => (wM bd G (m_certificate st p1 p2 p3).2 ++ wr)) (post := fun r _ => r = (m_certificate st p1 p2 p3).1) (u := ()) hx hb hr hlocks h0 (by rw [m_certificate, if_neg c_11, if_neg c_26, if_neg c_36, if_neg c_59, if_neg c_69_0, if_neg c_69_1, if_pos c_69_2]; exact hw) rfl (by rw [m_certificate, if_neg c_11, if_neg c_26, if_neg c_36, if_neg c_59, if_neg c_69_0, if_neg c_69_1, if_pos c_69_2]) (Nat.le_of_ble_eq_true rfl) (Nat.le_of_ble_eq_true rfl) d_M_certificate_135
              · skip
                rcases Classical.em (p3 = 3) with c_69_3 | c_69_3
                · refine lv_tableIn (tgt := 136) hx hb d_M_certificate_69 (by rw [c_69_3]; decide) (by rw [c_69_3]; decide) (by rw [c_69_3]; rfl) (by decide) ?_
                  refine lv_aload_n hx hb d_M_certificate_136 rfl (lv_at hl 1 rfl) ?_
                  refine va_get (D := G.1) (ci := 3) (v := .ref (bd 8)) (C := R_M) (T := T_M) (N := 25) hx hb hts in_M hown h0.1 hw.1 0 rfl rfl 8 (by decide) (hg (.fieldLink R_M 29 "SecureEntryModel" "from" "[I") (by decide +kernel)) (fun _ h9 => h9) rfl d_M_certificate_137 ?_
                  refine lv_iload hx hb d_M_certificate_140 (lv_at hl 0 rfl) ?_
                  refine va_iald (f := (st.2 8)) hx hb h0.1 hw.1 7 0 rfl rfl hc d_M_certificate_142 ?_
                  exact z_iret (wf := fun _ : Unit => (wM bd G (m_certificate st p1 p2 p3).2 ++ wr)) (post := fun r _ => r = (m_certificate st p1 p2 p3).1) (u := ()) hx hb hr hlocks h0 (by rw [m_certificate, if_neg c_11, if_neg c_26, if_neg c_36, if_neg c_59, if_neg c_69_0, if_neg c_69_1, if_neg c_69_2, if_pos c_69_3]; exact hw) rfl (by rw [m_certificate, if_neg c_11, if_neg c_26, if_neg c_36, if_neg c_59, if_neg c_69_0, if_neg c_69_1, if_neg c_69_2, if_pos c_69_3]) (Nat.le_of_ble_eq_true rfl) (Nat.le_of_ble_eq_true rfl) d_M_certificate_143
                · skip
                  rcases Classical.em (p3 = 4) with c_69_4 | c_69_4
                  · refine lv_tableIn (tgt := 144) hx hb d_M_certificate_69 (by rw [c_69_4]; decide) (by rw [c_69_4]; decide) (by rw [c_69_4]; rfl) (by decide) ?_
                    refine lv_aload_n hx hb d_M_certificate_144 rfl (lv_at hl 1 rfl) ?_
                    refine va_get (D := G.1) (ci := 3) (v := .ref (bd 9)) (C := R_M) (T := T_M) (N := 25) hx hb hts in_M hown h0.1 hw.1 0 rfl rfl 9 (by decide) (hg (.fieldLink R_M 32 "SecureEntryModel" "to" "[I") (by decide +kernel)) (fun _ h9 => h9) rfl d_M_certificate_145 ?_
                    refine lv_iload hx hb d_M_certificate_148 (lv_at hl 0 rfl) ?_
                    refine va_iald (f := (st.2 9)) hx hb h0.1 hw.1 8 0 rfl rfl hc d_M_certificate_150 ?_
                    exact z_iret (wf := fun _ : Unit => (wM bd G (m_certificate st p1 p2 p3).2 ++ wr)) (post := fun r _ => r = (m_certificate st p1 p2 p3).1) (u := ()) hx hb hr hlocks h0 (by rw [m_certificate, if_neg c_11, if_neg c_26, if_neg c_36, if_neg c_59, if_neg c_69_0, if_neg c_69_1, if_neg c_69_2, if_neg c_69_3, if_pos c_69_4]; exact hw) rfl (by rw [m_certificate, if_neg c_11, if_neg c_26, if_neg c_36, if_neg c_59, if_neg c_69_0, if_neg c_69_1, if_neg c_69_2, if_neg c_69_3, if_pos c_69_4]) (Nat.le_of_ble_eq_true rfl) (Nat.le_of_ble_eq_true rfl) d_M_certificate_151
                  · skip
                    rcases Classical.em (p3 = 5) with c_69_5 | c_69_5
                    · refine lv_tableIn (tgt := 152) hx hb d_M_certificate_69 (by rw [c_69_5]; decide) (by rw [c_69_5]; decide) (by rw [c_69_5]; rfl) (by decide) ?_
                      refine lv_aload_n hx hb d_M_certificate_152 rfl (lv_at hl 1 rfl) ?_
                      refine va_get (D := G.1) (ci := 3) (v := .ref (bd 10)) (C := R_M) (T := T_M) (N := 25) hx hb hts in_M hown h0.1 hw.1 0 rfl rfl 10 (by decide) (hg (.fieldLink R_M 35 "SecureEntryModel" "sign" "[I") (by decide +kernel)) (fun _ h9 => h9) rfl d_M_certificate_153 ?_
                      refine lv_iload hx hb d_M_certificate_156 (lv_at hl 0 rfl) ?_
                      refine va_iald (f := (st.2 10)) hx hb h0.1 hw.1 9 0 rfl rfl hc d_M_certificate_158 ?_
                      exact z_iret (wf := fun _ : Unit => (wM bd G (m_certificate st p1 p2 p3).2 ++ wr)) (post := fun r _ => r = (m_certificate st p1 p2 p3).1) (u := ()) hx hb hr hlocks h0 (by rw [m_certificate, if_neg c_11, if_neg c_26, if_neg c_36, if_neg c_59, if_neg c_69_0, if_neg c_69_1, if_neg c_69_2, if_neg c_69_3, if_neg c_69_4, if_pos c_69_5]; exact hw) rfl (by rw [m_certificate, if_neg c_11, if_neg c_26, if_neg c_36, if_neg c_59, if_neg c_69_0, if_neg c_69_1, if_neg c_69_2, if_neg c_69_3, if_neg c_69_4, if_pos c_69_5]) (Nat.le_of_ble_eq_true rfl) (Nat.le_of_ble_eq_true rfl) d_M_certificate_159
                    · skip
                      rcases Classical.em (p3 = 6) with c_69_6 | c_69_6
                      · refine lv_tableIn (tgt := 160) hx hb d_M_certificate_69 (by rw [c_69_6]; decide) (by rw [c_69_6]; decide) (by rw [c_69_6]; rfl) (by decide) ?_
                        refine lv_aload_n hx hb d_M_certificate_160 rfl (lv_at hl 1 rfl) ?_
                        refine lv_iload hx hb d_M_certificate_161 (lv_at hl 0 rfl) ?_
                        refine z_Vi0 (As := [.int ((4 * p1) + p2)]) (v := (m_valid (mS st 0 0) ((4 * p1) + p2))) ⟨hx, hb, hml, hown, hts⟩ (c_M_valid l G bd (mS st 0 0) wr _ ((4 * p1) + p2) hI hc) (cwV 1 hts gV_M_96 rfl rfl rfl (by decide +kernel) ⟨Nat.le_of_ble_eq_true rfl, Nat.le_of_ble_eq_true rfl⟩) h0 hw 0 rfl rfl rfl rfl hl.1 rfl (Nat.le_of_ble_eq_true rfl) d_M_certificate_163 ⟨Nat.le_of_ble_eq_true rfl, Nat.le_of_ble_eq_true rfl⟩ (fun H locs hw => ?_)
                        refine lv_if_eq (tgt := 173) hx hb d_M_certificate_166 (by decide) (fun c_166 => ?_) (fun c_166 => ?_)
                        · refine lv_iconst (v := 0) hx hb d_M_certificate_173 (by decide) ?_
                          exact z_iret (wf := fun _ : Unit => (wM bd G (m_certificate st p1 p2 p3).2 ++ wr)) (post := fun r _ => r = (m_certificate st p1 p2 p3).1) (u := ()) hx hb hr hlocks h0 (by rw [m_certificate, if_neg c_11, if_neg c_26, if_neg c_36, if_neg c_59, if_neg c_69_0, if_neg c_69_1, if_neg c_69_2, if_neg c_69_3, if_neg c_69_4, if_neg c_69_5, if_pos c_69_6, if_pos c_166]; exact hw) rfl (by rw [m_certificate, if_neg c_11, if_neg c_26, if_neg c_36, if_neg c_59, if_neg c_69_0, if_neg c_69_1, if_neg c_69_2, if_neg c_69_3, if_neg c_69_4, if_neg c_69_5, if_pos c_69_6, if_pos c_166]) (Nat.le_of_ble_eq_true rfl) (Nat.le_of_ble_eq_true rfl) d_M_certificate_174
                        · refine lv_iconst (v := 1) hx hb d_M_certificate_169 (by decide) ?_
                          refine lv_goto (tgt := 174) hx hb d_M_certificate_170 (by decide) ?_
                          exact z_iret (wf := fun _ : Unit => (wM bd G (m_certificate st p1 p2 p3).2 ++ wr)) (post := fun r _ => r = (m_certificate st p1 p2 p3).1) (u := ()) hx hb hr hlocks h0 (by rw [m_certificate, if_neg c_11, if_neg c_26, if_neg c_36, if_neg c_59, if_neg c_69_0, if_neg c_69_1, if_neg c_69_2, if_neg c_69_3, if_neg c_69_4, if_neg c_69_5, if_pos c_69_6, if_neg c_166]; exact hw) rfl (by rw [m_certificate, if_neg c_11, if_neg c_26, if_neg c_36, if_neg c_59, if_neg c_69_0, if_neg c_69_1, if_neg c_69_2, if_neg c_69_3, if_neg c_69_4, if_neg c_69_5, if_pos c_69_6, if_neg c_166]) (Nat.le_of_ble_eq_true rfl) (Nat.le_of_ble_eq_true rfl) d_M_certificate_174
                      · refine lv_tableOut (tgt := 175) hx hb d_M_certificate_69 (z_tout7 c_69_0 c_69_1 c_69_2 c_69_3 c_69_4 c_69_5 c_69_6) (by decide) ?_
                        refine lv_aload_n hx hb d_M_certificate_175 rfl (lv_at hl 1 rfl) ?_
                        refine lv_iconst (v := 2) hx hb d_M_certificate_176 (by decide) ?_
                        refine z_Vi0 (As := [.int 2]) (v := 0) (ws1 := (wM bd G (mS (mS st 0 0) 0 2) ++ wr)) ⟨hx, hb, hml, hown, hts⟩ (c_M_raise l G bd (mS st 0 0) wr _ 2) (cwV 1 hts gV_M_81 rfl rfl rfl (by decide +kernel) ⟨Nat.le_of_ble_eq_true rfl, Nat.le_of_ble_eq_true rfl⟩) h0 hw 0 rfl rfl rfl rfl hl.1 rfl (Nat.le_of_ble_eq_true rfl) d_M_certificate_177 ⟨Nat.le_of_ble_eq_true rfl, Nat.le_of_ble_eq_true rfl⟩ (fun H locs hw => ?_)
                        have hI : InvM (mS (mS st 0 0) 0 2) := invm_mS hI (by decide)
                        exact z_iret (wf := fun _ : Unit => (wM bd G (m_certificate st p1 p2 p3).2 ++ wr)) (post := fun r _ => r = (m_certificate st p1 p2 p3).1) (u := ()) hx hb hr hlocks h0 (by rw [m_certificate, if_neg c_11, if_neg c_26, if_neg c_36, if_neg c_59, if_neg c_69_0, if_neg c_69_1, if_neg c_69_2, if_neg c_69_3, if_neg c_69_4, if_neg c_69_5, if_neg c_69_6]; exact hw) rfl (by rw [m_certificate, if_neg c_11, if_neg c_26, if_neg c_36, if_neg c_59, if_neg c_69_0, if_neg c_69_1, if_neg c_69_2, if_neg c_69_3, if_neg c_69_4, if_neg c_69_5, if_neg c_69_6]) (Nat.le_of_ble_eq_true rfl) (Nat.le_of_ble_eq_true rfl) d_M_certificate_180
        · refine lv_aload_n hx hb d_M_certificate_62 rfl (lv_at hl 1 rfl) ?_
          refine lv_iconst (v := 1) hx hb d_M_certificate_63 (by decide) ?_
          refine z_Vi0 (As := [.int 1]) (v := 0) (ws1 := (wM bd G (mS (mS st 0 0) 0 1) ++ wr)) ⟨hx, hb, hml, hown, hts⟩ (c_M_raise l G bd (mS st 0 0) wr _ 1) (cwV 1 hts gV_M_81 rfl rfl rfl (by decide +kernel) ⟨Nat.le_of_ble_eq_true rfl, Nat.le_of_ble_eq_true rfl⟩) h0 hw 0 rfl rfl rfl rfl hl.1 rfl (Nat.le_of_ble_eq_true rfl) d_M_certificate_64 ⟨Nat.le_of_ble_eq_true rfl, Nat.le_of_ble_eq_true rfl⟩ (fun H locs hw => ?_)
          have hI : InvM (mS (mS st 0 0) 0 1) := invm_mS hI (by decide)
          exact z_iret (wf := fun _ : Unit => (wM bd G (m_certificate st p1 p2 p3).2 ++ wr)) (post := fun r _ => r = (m_certificate st p1 p2 p3).1) (u := ()) hx hb hr hlocks h0 (by rw [m_certificate, if_neg c_11, if_neg c_26, if_neg c_36, if_pos c_59]; exact hw) rfl (by rw [m_certificate, if_neg c_11, if_neg c_26, if_neg c_36, if_pos c_59]) (Nat.le_of_ble_eq_true rfl) (Nat.le_of_ble_eq_true rfl) d_M_certificate_67
      · refine lv_aload_n hx hb d_M_certificate_39 rfl (lv_at hl 0 rfl) ?_
        refine lv_iconst (v := 2) hx hb d_M_certificate_40 (by decide) ?_
        refine z_Vi0 (As := [.int 2]) (v := 0) (ws1 := (wM bd G (mS (mS st 0 0) 0 2) ++ wr)) ⟨hx, hb, hml, hown, hts⟩ (c_M_raise l G bd (mS st 0 0) wr _ 2) (cwV 1 hts gV_M_81 rfl rfl rfl (by decide +kernel) ⟨Nat.le_of_ble_eq_true rfl, Nat.le_of_ble_eq_true rfl⟩) h0 hw 0 rfl rfl rfl rfl hl.1 rfl (Nat.le_of_ble_eq_true rfl) d_M_certificate_41 ⟨Nat.le_of_ble_eq_true rfl, Nat.le_of_ble_eq_true rfl⟩ (fun H locs hw => ?_)
        have hI : InvM (mS (mS st 0 0) 0 2) := invm_mS hI (by decide)
        exact z_iret (wf := fun _ : Unit => (wM bd G (m_certificate st p1 p2 p3).2 ++ wr)) (post := fun r _ => r = (m_certificate st p1 p2 p3).1) (u := ()) hx hb hr hlocks h0 (by rw [m_certificate, if_neg c_11, if_neg c_26, if_pos c_36]; exact hw) rfl (by rw [m_certificate, if_neg c_11, if_neg c_26, if_pos c_36]) (Nat.le_of_ble_eq_true rfl) (Nat.le_of_ble_eq_true rfl) d_M_certificate_44
  · refine lv_aload_n hx hb d_M_certificate_14 rfl (lv_at hl 0 rfl) ?_
    refine lv_iconst (v := 1) hx hb d_M_certificate_15 (by decide) ?_
    refine z_Vi0 (As := [.int 1]) (v := 0) (ws1 := (wM bd G (mS (mS st 0 0) 0 1) ++ wr)) ⟨hx, hb, hml, hown, hts⟩ (c_M_raise l G bd (mS st 0 0) wr _ 1) (cwV 1 hts gV_M_81 rfl rfl rfl (by decide +kernel) ⟨Nat.le_of_ble_eq_true rfl, Nat.le_of_ble_eq_true rfl⟩) h0 hw 0 rfl rfl rfl rfl hl.1 rfl (Nat.le_of_ble_eq_true rfl) d_M_certificate_16 ⟨Nat.le_of_ble_eq_true rfl, Nat.le_of_ble_eq_true rfl⟩ (fun H locs hw => ?_)
    have hI : InvM (mS (mS st 0 0) 0 1) := invm_mS hI (by decide)
    exact z_iret (wf := fun _ : Unit => (wM bd G (m_certificate st p1 p2 p3).2 ++ wr)) (post := fun r _ => r = (m_certificate st p1 p2 p3).1) (u := ()) hx hb hr hlocks h0 (by rw [m_certificate, if_pos c_11]; exact hw) rfl (by rw [m_certificate, if_pos c_11]) (Nat.le_of_ble_eq_true rfl) (Nat.le_of_ble_eq_true rfl) d_M_certificate_19

end MC
