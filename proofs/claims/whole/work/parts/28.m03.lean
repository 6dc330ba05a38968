section MC
set_option maxHeartbeats 4000000 in
set_option maxRecDepth 100000 in
theorem c_M_configure (l : Launch) (G : gG) (bd : Nat → Nat) (st : MS) (wr : va_W) (sz : Nat) (p1 : Int32) (p2 : Int32) (hI : InvM st) : Met l y_M_configure w_M_configure { frames := 2, cells := 0, slots := 0, locals := 45 } (va_Pc [.ref (bd 0), .int p1, .int p2] (z_pre G (wM bd G st ++ wr) sz)) (z_Qi0 G (wM bd G st ++ wr) sz (wM bd G (m_configure st p1 p2).2 ++ wr) (m_configure st p1 p2).1) 0 0 (va_A (wM bd G st ++ wr) sz) := by
  refine Met.ofW (cc := b_M_configure) (maxL := 4) (ret := (some .int)) (by decide) rfl ?_
  intro p e s m args below meth c s₁ B hml hv
  obtain ⟨rfl, hsz, hP, hK, hD0, ham⟩ := hv
  subst hsz
  have hx := B.exec
  have hb := B.bytes
  have hr := B.returns
  have hts : ∀ w ∈ goT, w.before _ s = true := fun w h => atoms_spec (ws := w_M_configure) B.pre w (List.mem_cons_of_mem _ h)
  have hg : ∀ w, goB w = true → w.before _ s = true := fun w h => hts w (goI h)
  have hown : s.vm.findClass R_M = some m.cls := findClass_of_methodNamed B.named
  have hlocks := B.notSynchronized
  have h0 : z_st G (wM bd G st ++ wr) s := ⟨hK, ham⟩
  have hw : z_wl G (wM bd G st ++ wr) s (wM bd G st ++ wr) s.heap [] := z_0 hP hD0
  have hl := lv_entry ([.ref (bd 0), .int p1, .int p2]) (n := 4) (Nat.le_of_ble_eq_true rfl)
  rw [lg_entry_eq]
  generalize (lg_sl ([.ref (bd 0), .int p1, .int p2]) ++ List.replicate (4 - (lg_sl ([.ref (bd 0), .int p1, .int p2])).length) Slot.unset).toArray = ls at hl ⊢
  have hl : lv_has ls 4 [(0, .ref (bd 0)), (1, .int p1), (2, .int p2)] := hl
  refine lv_aload_n hx hb d_M_configure_0 rfl (lv_at hl 0 rfl) ?_
  refine lv_aload_n hx hb d_M_configure_1 rfl (lv_at hl 0 rfl) ?_
  refine lv_iconst (v := 3) hx hb d_M_configure_2 (by decide) ?_
  refine z_Vi0 (As := [.int 3]) (v := (m_refusal st 3)) ⟨hx, hb, hml, hown, hts⟩ (c_M_refusal l G bd st wr _ 3) (cwV 1 hts gV_M_148 rfl rfl rfl (by decide +kernel) ⟨Nat.le_of_ble_eq_true rfl, Nat.le_of_ble_eq_true rfl⟩) h0 hw 0 rfl rfl rfl rfl hl.1 rfl (Nat.le_of_ble_eq_true rfl) d_M_configure_3 ⟨Nat.le_of_ble_eq_true rfl, Nat.le_of_ble_eq_true rfl⟩ (fun H locs hw => ?_)
  refine va_put (D := G.1) (ci := 3) (v := .int (m_refusal st 3)) (ty := .int) (C := R_M) (T := T_M) (N := 25) hx hb hts in_M ty_M ty_M_ok n_M hown h0.1 hw.1 hw.2.1 hw.2.2 0 rfl rfl 0 (by decide) (hg (.fieldLink R_M 54 "SecureEntryModel" "thrown" "I") (by decide +kernel)) (fun _ h9 => h9) rfl (by decide +kernel) rfl rfl (Nat.le_of_ble_eq_true rfl) d_M_configure_6 (fun H locs hP hD hS => ?_)
  have hI : InvM (mS st 0 (m_refusal st 3)) := invm_mS hI (by decide)
  have hw : z_wl G (wM bd G st ++ wr) s (wM bd G (mS st 0 (m_refusal st 3)) ++ wr) H locs := ⟨hP, hD, hS⟩
  refine lv_aload_n hx hb d_M_configure_9 rfl (lv_at hl 0 rfl) ?_
  refine va_get (D := G.1) (ci := 3) (v := .int (m_refusal st 3)) (C := R_M) (T := T_M) (N := 25) hx hb hts in_M hown h0.1 hw.1 0 rfl rfl 0 (by decide) (hg (.fieldLink R_M 54 "SecureEntryModel" "thrown" "I") (by decide +kernel)) (fun _ h9 => h9) rfl d_M_configure_10 ?_
  refine lv_if_eq (tgt := 18) hx hb d_M_configure_13 (by decide) (fun c_13 => ?_) (fun c_13 => ?_)
  · refine lv_iload_n hx hb d_M_configure_18 rfl (lv_at hl 1 rfl) ?_
    refine lv_iconst (v := 0) hx hb d_M_configure_19 (by decide) ?_
    refine lv_iconst (v := 5) hx hb d_M_configure_20 (by decide) ?_
    refine z_Si0 (As := [.int p1, .int 0, .int 5]) (v := (m_inn p1 0 5)) ⟨hx, hb, hml, hown, hts⟩ (c_M_in l G (wM bd G (mS st 0 (m_refusal st 3)) ++ wr) _ p1 0 5) (cwS 3 hts gS_M_57 rfl rfl rfl (by decide +kernel) ⟨Nat.le_of_ble_eq_true rfl, Nat.le_of_ble_eq_true rfl⟩) h0 hw rfl hl.1 rfl (Nat.le_of_ble_eq_true rfl) d_M_configure_21 ⟨Nat.le_of_ble_eq_true rfl, Nat.le_of_ble_eq_true rfl⟩ (fun H locs hw => ?_)
    refine lv_if_eq (tgt := 57) hx hb d_M_configure_24 (by decide) (fun c_24 => ?_) (fun c_24 => ?_)
    · refine lv_aload_n hx hb d_M_configure_57 rfl (lv_at hl 0 rfl) ?_
      refine lv_iconst (v := 3) hx hb d_M_configure_58 (by decide) ?_
      refine z_Vi0 (As := [.int 3]) (v := 0) (ws1 := (wM bd G (mS (mS st 0 (m_refusal st 3)) 0 3) ++ wr)) ⟨hx, hb, hml, hown, hts⟩ (c_M_raise l G bd (mS st 0 (m_refusal st 3)) wr _ 3) (cwV 1 hts gV_M_81 rfl rfl rfl (by decide +kernel) ⟨Nat.le_of_ble_eq_true rfl, Nat.le_of_ble_eq_true rfl⟩) h0 hw 0 rfl rfl rfl rfl hl.1 rfl (Nat.le_of_ble_eq_true rfl) d_M_configure_59 ⟨Nat.le_of_ble_eq_true rfl, Nat.le_of_ble_eq_true rfl⟩ (fun H locs hw => ?_)
      have hI : InvM (mS (mS st 0 (m_refusal st 3)) 0 3) := invm_mS hI (by decide)
      exact z_iret (wf := fun _ : Unit => (wM bd G (m_configure st p1 p2).2 ++ wr)) (post := fun r _ => r = (m_configure st p1 p2).1) (u := ()) hx hb hr hlocks h0 (by rw [m_configure, if_pos c_13, if_pos c_24]; exact hw) rfl (by rw [m_configure, if_pos c_13, if_pos c_24]) (Nat.le_of_ble_eq_true rfl) (Nat.le_of_ble_eq_true rfl) d_M_configure_62
    · have hp1 : vp_in p1 6 := minn_in c_24 (by decide)
      refine lv_iload_n hx hb d_M_configure_27 rfl (lv_at hl 2 rfl) ?_
      refine lv_iconst (v := 0) hx hb d_M_configure_28 (by decide) ?_
      refine lv_iload_n hx hb d_M_configure_29 rfl (lv_at hl 1 rfl) ?_
      refine lv_iconst (v := 4) hx hb d_M_configure_30 (by decide) ?_
      refine lv_icmp_ge (tgt := 40) hx hb d_M_configure_31 (by decide) (fun c_31 => ?_) (fun c_31 => ?_)
      · refine lv_iload_n hx hb d_M_configure_40 rfl (lv_at hl 1 rfl) ?_
        refine lv_iconst (v := 4) hx hb d_M_configure_41 (by decide) ?_
        refine lv_icmp_ne (tgt := 50) hx hb d_M_configure_42 (by decide) (fun c_42 => ?_) (fun c_42 => ?_)
        · refine lv_iconst (v := 3) hx hb d_M_configure_50 (by decide) ?_
          refine z_Si0 (As := [.int p2, .int 0, .int 3]) (v := (m_inn p2 0 3)) ⟨hx, hb, hml, hown, hts⟩ (c_M_in l G (wM bd G (mS st 0 (m_refusal st 3)) ++ wr) _ p2 0 3) (cwS 3 hts gS_M_57 rfl rfl rfl (by decide +kernel) ⟨Nat.le_of_ble_eq_true rfl, Nat.le_of_ble_eq_true rfl⟩) h0 hw rfl hl.1 rfl (Nat.le_of_ble_eq_true rfl) d_M_configure_51 ⟨Nat.le_of_ble_eq_true rfl, Nat.le_of_ble_eq_true rfl⟩ (fun H locs hw => ?_)
          refine lv_if_ne (tgt := 63) hx hb d_M_configure_54 (by decide) (fun c_54 => ?_) (fun c_54 => ?_)
          · refine lv_aload_n hx hb d_M_configure_63 rfl (lv_at hl 0 rfl) ?_
            refine va_get (D := G.1) (ci := 3) (v := .ref (bd 2)) (C := R_M) (T := T_M) (N := 25) hx hb hts in_M hown h0.1 hw.1 0 rfl rfl 2 (by decide) (hg (.fieldLink R_M 7 "SecureEntryModel" "config" "[I") (by decide +kernel)) (fun _ h9 => h9) rfl d_M_configure_64 ?_
            refine lv_iload_n hx hb d_M_configure_67 rfl (lv_at hl 1 rfl) ?_
            refine va_iald (f := (st.2 2)) hx hb h0.1 hw.1 1 0 rfl rfl hp1 d_M_configure_68 ?_
            refine lv_istore_n (lv' := [(3, .int ((st.2 2) p1.toNatClampNeg)), (0, .ref (bd 0)), (1, .int p1), (2, .int p2)]) hx hb d_M_configure_69 rfl hl (by decide) rfl (fun ls hl => ?_)
            refine lv_aload_n hx hb d_M_configure_70 rfl (lv_at hl 1 rfl) ?_
            refine va_get (D := G.1) (ci := 3) (v := .ref (bd 2)) (C := R_M) (T := T_M) (N := 25) hx hb hts in_M hown h0.1 hw.1 0 rfl rfl 2 (by decide) (hg (.fieldLink R_M 7 "SecureEntryModel" "config" "[I") (by decide +kernel)) (fun _ h9 => h9) rfl d_M_configure_71 ?_
            refine lv_iload_n hx hb d_M_configure_74 rfl (lv_at hl 2 rfl) ?_
            refine lv_iload_n hx hb d_M_configure_75 rfl (lv_at hl 3 rfl) ?_
            refine va_iast hx hb h0.1 hw.1 hw.2.1 hw.2.2 1 0 rfl rfl hp1 d_M_configure_76 (fun H locs hP hD hS => ?_)
            have hI : InvM (mA (mS st 0 (m_refusal st 3)) 2 (upd (st.2 2) p1.toNatClampNeg p2)) := invm_mA hI (by decide)
            have hw : z_wl G (wM bd G st ++ wr) s (wM bd G (mA (mS st 0 (m_refusal st 3)) 2 (upd (st.2 2) p1.toNatClampNeg p2)) ++ wr) H locs := ⟨hP, hD, hS⟩
            refine lv_aload_n hx hb d_M_configure_77 rfl (lv_at hl 1 rfl) ?_
            refine lv_bipush (v := 14) hx hb d_M_configure_78 (by decide) ?_
            refine lv_aload_n hx hb d_M_configure_80 rfl (lv_at hl 1 rfl) ?_
            refine va_get (D := G.1) (ci := 3) (v := .int (st.1 12)) (C := R_M) (T := T_M) (N := 25) hx hb hts in_M hown h0.1 hw.1 0 rfl rfl 12 (by decide) (hg (.fieldLink R_M 42 "SecureEntryModel" "inner" "I") (by decide +kernel)) (fun _ h9 => h9) rfl d_M_configure_81 ?_
            refine z_Vv0 (As := [.int 14, .int (st.1 12)]) (ws1 := (wM bd G (m_note (mA (mS st 0 (m_refusal st 3)) 2 (upd (st.2 2) p1.toNatClampNeg p2)) 14 (st.1 12)) ++ wr)) ⟨hx, hb, hml, hown, hts⟩ (c_M_note l G bd (mA (mS st 0 (m_refusal st 3)) 2 (upd (st.2 2) p1.toNatClampNeg p2)) wr _ 14 (st.1 12) hI hI.2.2.2) (cwV 2 hts gV_M_122 rfl rfl rfl (by decide +kernel) ⟨Nat.le_of_ble_eq_true rfl, Nat.le_of_ble_eq_true rfl⟩) h0 hw 0 rfl rfl rfl rfl hl.1 rfl (Nat.le_of_ble_eq_true rfl) d_M_configure_84 ⟨Nat.le_of_ble_eq_true rfl, Nat.le_of_ble_eq_true rfl⟩ (fun H locs hw => ?_)
            have hI : InvM (m_note (mA (mS st 0 (m_refusal st 3)) 2 (upd (st.2 2) p1.toNatClampNeg p2)) 14 (st.1 12)) := inv_m_note hI
            refine lv_iload_n hx hb d_M_configure_87 rfl (lv_at hl 0 rfl) ?_
            exact z_iret (wf := fun _ : Unit => (wM bd G (m_configure st p1 p2).2 ++ wr)) (post := fun r _ => r = (m_configure st p1 p2).1) (u := ()) hx hb hr hlocks h0 (by rw [m_configure, if_pos c_13, if_neg c_24, if_pos c_31, if_neg c_42, if_neg c_54]; exact hw) rfl (by rw [m_configure, if_pos c_13, if_neg c_24, if_pos c_31, if_neg c_42, if_neg c_54]) (Nat.le_of_ble_eq_true rfl) (Nat.le_of_ble_eq_true rfl) d_M_configure_88
          · refine lv_aload_n hx hb d_M_configure_57 rfl (lv_at hl 0 rfl) ?_
            refine lv_iconst (v := 3) hx hb d_M_configure_58 (by decide) ?_
            refine z_Vi0 (As := [.int 3]) (v := 0) (ws1 := (wM bd G (mS (mS st 0 (m_refusal st 3)) 0 3) ++ wr)) ⟨hx, hb, hml, hown, hts⟩ (c_M_raise l G bd (mS st 0 (m_refusal st 3)) wr _ 3) (cwV 1 hts gV_M_81 rfl rfl rfl (by decide +kernel) ⟨Nat.le_of_ble_eq_true rfl, Nat.le_of_ble_eq_true rfl⟩) h0 hw 0 rfl rfl rfl rfl hl.1 rfl (Nat.le_of_ble_eq_true rfl) d_M_configure_59 ⟨Nat.le_of_ble_eq_true rfl, Nat.le_of_ble_eq_true rfl⟩ (fun H locs hw => ?_)
            have hI : InvM (mS (mS st 0 (m_refusal st 3)) 0 3) := invm_mS hI (by decide)
            exact z_iret (wf := fun _ : Unit => (wM bd G (m_configure st p1 p2).2 ++ wr)) (post := fun r _ => r = (m_configure st p1 p2).1) (u := ()) hx hb hr hlocks h0 (by rw [m_configure, if_pos c_13, if_neg c_24, if_pos c_31, if_neg c_42, if_pos c_54]; exact hw) rfl (by rw [m_configure, if_pos c_13, if_neg c_24, if_pos c_31, if_neg c_42, if_pos c_54]) (Nat.le_of_ble_eq_true rfl) (Nat.le_of_ble_eq_true rfl) d_M_configure_62
        · refine lv_bipush (v := 16) hx hb d_M_configure_45 (by decide) ?_
          refine lv_goto (tgt := 51) hx hb d_M_configure_47 (by decide) ?_
          refine z_Si0 (As := [.int p2, .int 0, .int 16]) (v := (m_inn p2 0 16)) ⟨hx, hb, hml, hown, hts⟩ (c_M_in l G (wM bd G (mS st 0 (m_refusal st 3)) ++ wr) _ p2 0 16) (cwS 3 hts gS_M_57 rfl rfl rfl (by decide +kernel) ⟨Nat.le_of_ble_eq_true rfl, Nat.le_of_ble_eq_true rfl⟩) h0 hw rfl hl.1 rfl (Nat.le_of_ble_eq_true rfl) d_M_configure_51 ⟨Nat.le_of_ble_eq_true rfl, Nat.le_of_ble_eq_true rfl⟩ (fun H locs hw => ?_)
          refine lv_if_ne (tgt := 63) hx hb d_M_configure_54 (by decide) (fun c_54 => ?_) (fun c_54 => ?_)
          · refine lv_aload_n hx hb d_M_configure_63 rfl (lv_at hl 0 rfl) ?_
            refine va_get (D := G.1) (ci := 3) (v := .ref (bd 2)) (C := R_M) (T := T_M) (N := 25) hx hb hts in_M hown h0.1 hw.1 0 rfl rfl 2 (by decide) (hg (.fieldLink R_M 7 "SecureEntryModel" "config" "[I") (by decide +kernel)) (fun _ h9 => h9) rfl d_M_configure_64 ?_
            refine lv_iload_n hx hb d_M_configure_67 rfl (lv_at hl 1 rfl) ?_
            refine va_iald (f := (st.2 2)) hx hb h0.1 hw.1 1 0 rfl rfl hp1 d_M_configure_68 ?_
            refine lv_istore_n (lv' := [(3, .int ((st.2 2) p1.toNatClampNeg)), (0, .ref (bd 0)), (1, .int p1), (2, .int p2)]) hx hb d_M_configure_69 rfl hl (by decide) rfl (fun ls hl => ?_)
            refine lv_aload_n hx hb d_M_configure_70 rfl (lv_at hl 1 rfl) ?_
            refine va_get (D := G.1) (ci := 3) (v := .ref (bd 2)) (C := R_M) (T := T_M) (N := 25) hx hb hts in_M hown h0.1 hw.1 0 rfl rfl 2 (by decide) (hg (.fieldLink R_M 7 "SecureEntryModel" "config" "[I") (by decide +kernel)) (fun _ h9 => h9) rfl d_M_configure_71 ?_
            refine lv_iload_n hx hb d_M_configure_74 rfl (lv_at hl 2 rfl) ?_
            refine lv_iload_n hx hb d_M_configure_75 rfl (lv_at hl 3 rfl) ?_
            refine va_iast hx hb h0.1 hw.1 hw.2.1 hw.2.2 1 0 rfl rfl hp1 d_M_configure_76 (fun H locs hP hD hS => ?_)
            have hI : InvM (mA (mS st 0 (m_refusal st 3)) 2 (upd (st.2 2) p1.toNatClampNeg p2)) := invm_mA hI (by decide)
            have hw : z_wl G (wM bd G st ++ wr) s (wM bd G (mA (mS st 0 (m_refusal st 3)) 2 (upd (st.2 2) p1.toNatClampNeg p2)) ++ wr) H locs := ⟨hP, hD, hS⟩
            refine lv_aload_n hx hb d_M_configure_77 rfl (lv_at hl 1 rfl) ?_
            refine lv_bipush (v := 14) hx hb d_M_configure_78 (by decide) ?_
            refine lv_aload_n hx hb d_M_configure_80 rfl (lv_at hl 1 rfl) ?_
            refine va_get (D := G.1) (ci := 3) (v := .int (st.1 12)) (C := R_M) (T := T_M) (N := 25) hx hb hts in_M hown h0.1 hw.1 0 rfl rfl 12 (by decide) (hg (.fieldLink R_M 42 "SecureEntryModel" "inner" "I") (by decide +kernel)) (fun _ h9 => h9) rfl d_M_configure_81 ?_
            refine z_Vv0 (As := [.int 14, .int (st.1 12)]) (ws1 := (wM bd G (m_note (mA (mS st 0 (m_refusal st 3)) 2 (upd (st.2 2) p1.toNatClampNeg p2)) 14 (st.1 12)) ++ wr)) ⟨hx, hb, hml, hown, hts⟩ (c_M_note l G bd (mA (mS st 0 (m_refusal st 3)) 2 (upd (st.2 2) p1.toNatClampNeg p2)) wr _ 14 (st.1 12) hI hI.2.2.2) (cwV 2 hts gV_M_122 rfl rfl rfl (by decide +kernel) ⟨Nat.le_of_ble_eq_true rfl, Nat.le_of_ble_eq_true rfl⟩) h0 hw 0 rfl rfl rfl rfl hl.1 rfl (Nat.le_of_ble_eq_true rfl) d_M_configure_84 ⟨Nat.le_of_ble_eq_true rfl, Nat.le_of_ble_eq_true rfl⟩ (fun H locs hw => ?_)
            have hI : InvM (m_note (mA (mS st 0 (m_refusal st 3)) 2 (upd (st.2 2) p1.toNatClampNeg p2)) 14 (st.1 12)) := inv_m_note hI
            refine lv_iload_n hx hb d_M_configure_87 rfl (lv_at hl 0 rfl) ?_
            exact z_iret (wf := fun _ : Unit => (wM bd G (m_configure st p1 p2).2 ++ wr)) (post := fun r _ => r = (m_configure st p1 p2).1) (u := ()) hx hb hr hlocks h0 (by rw [m_configure, if_pos c_13, if_neg c_24, if_pos c_31, if_pos c_42, if_neg c_54]; exact hw) rfl (by rw [m_configure, if_pos c_13, if_neg c_24, if_pos c_31, if_pos c_42, if_neg c_54]) (Nat.le_of_ble_eq_true rfl) (Nat.le_of_ble_eq_true rfl) d_M_configure_88
          · refine lv_aload_n hx hb d_M_configure_57 rfl (lv_at hl 0 rfl) ?_
            refine lv_iconst (v := 3) hx hb d_M_configure_58 (by decide) ?_
            refine z_Vi0 (As := [.int 3]) (v := 0) (ws1 := (wM bd G (mS (mS st 0 (m_refusal st 3)) 0 3) ++ wr)) ⟨hx, hb, hml, hown, hts⟩ (c_M_raise l G bd (mS st 0 (m_refusal st 3)) wr _ 3) (cwV 1 hts gV_M_81 rfl rfl rfl (by decide +kernel) ⟨Nat.le_of_ble_eq_true rfl, Nat.le_of_ble_eq_true rfl⟩) h0 hw 0 rfl rfl rfl rfl hl.1 rfl (Nat.le_of_ble_eq_true rfl) d_M_configure_59 ⟨Nat.le_of_ble_eq_true rfl, Nat.le_of_ble_eq_true rfl⟩ (fun H locs hw => ?_)
            have hI : InvM (mS (mS st 0 (m_refusal st 3)) 0 3) := invm_mS hI (by decide)
            exact z_iret (wf := fun _ : Unit => (wM bd G (m_configure st p1 p2).2 ++ wr)) (post := fun r _ => r = (m_configure st p1 p2).1) (u := ()) hx hb hr hlocks h0 (by rw [m_configure, if_pos c_13, if_neg c_24, if_pos c_31, if_pos c_42, if_pos c_54]; exact hw) rfl (by rw [m_configure, if_pos c_13, if_neg c_24, if_pos c_31, if_pos c_42, if_pos c_54]) (Nat.le_of_ble_eq_true rfl) (Nat.le_of_ble_eq_true rfl) d_M_configure_62
      · refine lv_sipush (v := 1000) hx hb d_M_configure_34 (by decide) ?_
        refine lv_goto (tgt := 51) hx hb d_M_configure_37 (by decide) ?_
        refine z_Si0 (As := [.int p2, .int 0, .int 1000]) (v := (m_inn p2 0 1000)) ⟨hx, hb, hml, hown, hts⟩ (c_M_in l G (wM bd G (mS st 0 (m_refusal st 3)) ++ wr) _ p2 0 1000) (cwS 3 hts gS_M_57 rfl rfl rfl (by decide +kernel) ⟨Nat.le_of_ble_eq_true rfl, Nat.le_of_ble_eq_true rfl⟩) h0 hw rfl hl.1 rfl (Nat.le_of_ble_eq_true rfl) d_M_configure_51 ⟨Nat.le_of_ble_eq_true rfl, Nat.le_of_ble_eq_true rfl⟩ (fun H locs hw => ?_)
        refine lv_if_ne (tgt := 63) hx hb d_M_configure_54 (by decide) (fun c_54 => ?_) (fun c_54 => ?_)
        · refine lv_aload_n hx hb d_M_configure_63 rfl (lv_at hl 0 rfl) ?_
          refine va_get (D := G.1) (ci := 3) (v := .ref (bd 2)) (C := R_M) (T := T_M) (N := 25) hx hb hts in_M hown h0.1 hw.1 0 rfl rfl 2 (by decide) (hg (.fieldLink R_M 7 "SecureEntryModel" "config" "[I") (by decide +kernel)) (fun _ h9 => h9) rfl d_M_configure_64 ?_
          refine lv_iload_n hx hb d_M_configure_67 rfl (lv_at hl 1 rfl) ?_
          refine va_iald (f := (st.2 2)) hx hb h0.1 hw.1 1 0 rfl rfl hp1 d_M_configure_68 ?_
          refine lv_istore_n (lv' := [(3, .int ((st.2 2) p1.toNatClampNeg)), (0, .ref (bd 0)), (1, .int p1), (2, .int p2)]) hx hb d_M_configure_69 rfl hl (by decide) rfl (fun ls hl => ?_)
          refine lv_aload_n hx hb d_M_configure_70 rfl (lv_at hl 1 rfl) ?_
          refine va_get (D := G.1) (ci := 3) (v := .ref (bd 2)) (C := R_M) (T := T_M) (N := 25) hx hb hts in_M hown h0.1 hw.1 0 rfl rfl 2 (by decide) (hg (.fieldLink R_M 7 "SecureEntryModel" "config" "[I") (by decide +kernel)) (fun _ h9 => h9) rfl d_M_configure_71 ?_
          refine lv_iload_n hx hb d_M_configure_74 rfl (lv_at hl 2 rfl) ?_
          refine lv_iload_n hx hb d_M_configure_75 rfl (lv_at hl 3 rfl) ?_
          refine va_iast hx hb h0.1 hw.1 hw.2.1 hw.2.2 1 0 rfl rfl hp1 d_M_configure_76 (fun H locs hP hD hS => ?_)
          have hI : InvM (mA (mS st 0 (m_refusal st 3)) 2 (upd (st.2 2) p1.toNatClampNeg p2)) := invm_mA hI (by decide)
          have hw : z_wl G (wM bd G st ++ wr) s (wM bd G (mA (mS st 0 (m_refusal st 3)) 2 (upd (st.2 2) p1.toNatClampNeg p2)) ++ wr) H locs := ⟨hP, hD, hS⟩
          refine lv_aload_n hx hb d_M_configure_77 rfl (lv_at hl 1 rfl) ?_
          refine lv_bipush (v := 14) hx hb d_M_configure_78 (by decide) ?_
          refine lv_aload_n hx hb d_M_configure_80 rfl (lv_at hl 1 rfl) ?_
          refine va_get (D := G.1) (ci := 3) (v := .int (st.1 12)) (C := R_M) (T := T_M) (N := 25) hx hb hts in_M hown h0.1 hw.1 0 rfl rfl 12 (by decide) (hg (.fieldLink R_M 42 "SecureEntryModel" "inner" "I") (by decide +kernel)) (fun _ h9 => h9) rfl d_M_configure_81 ?_
          refine z_Vv0 (As := [.int 14, .int (st.1 12)]) (ws1 := (wM bd G (m_note (mA (mS st 0 (m_refusal st 3)) 2 (upd (st.2 2) p1.toNatClampNeg p2)) 14 (st.1 12)) ++ wr)) ⟨hx, hb, hml, hown, hts⟩ (c_M_note l G bd (mA (mS st 0 (m_refusal st 3)) 2 (upd (st.2 2) p1.toNatClampNeg p2)) wr _ 14 (st.1 12) hI hI.2.2.2) (cwV 2 hts gV_M_122 rfl rfl rfl (by decide +kernel) ⟨Nat.le_of_ble_eq_true rfl, Nat.le_of_ble_eq_true rfl⟩) h0 hw 0 rfl rfl rfl rfl hl.1 rfl (Nat.le_of_ble_eq_true rfl) d_M_configure_84 ⟨Nat.le_of_ble_eq_true rfl, Nat.le_of_ble_eq_true rfl⟩ (fun H locs hw => ?_)
          have hI : InvM (m_note (mA (mS st 0 (m_refusal st 3)) 2 (upd (st.2 2) p1.toNatClampNeg p2)) 14 (st.1 12)) := inv_m_note hI
          refine lv_iload_n hx hb d_M_configure_87 rfl (lv_at hl 0 rfl) ?_
          exact z_iret (wf := fun _ : Unit => (wM bd G (m_configure st p1 p2).2 ++ wr)) (post := fun r _ => r = (m_configure st p1 p2).1) (u := ()) hx hb hr hlocks h0 (by rw [m_configure, if_pos c_13, if_neg c_24, if_neg c_31, if_neg c_54]; exact hw) rfl (by rw [m_configure, if_pos c_13, if_neg c_24, if_neg c_31, if_neg c_54]) (Nat.le_of_ble_eq_true rfl) (Nat.le_of_ble_eq_true rfl) d_M_configure_88
        · refine lv_aload_n hx hb d_M_configure_57 rfl (lv_at hl 0 rfl) ?_
          refine lv_iconst (v := 3) hx hb d_M_configure_58 (by decide) ?_
          refine z_Vi0 (As := [.int 3]) (v := 0) (ws1 := (wM bd G (mS (mS st 0 (m_refusal st 3)) 0 3) ++ wr)) ⟨hx, hb, hml, hown, hts⟩ (c_M_raise l G bd (mS st 0 (m_refusal st 3)) wr _ 3) (cwV 1 hts gV_M_81 rfl rfl rfl (by decide +kernel) ⟨Nat.le_of_ble_eq_true rfl, Nat.le_of_ble_eq_true rfl⟩) h0 hw 0 rfl rfl rfl rfl hl.1 rfl (Nat.le_of_ble_eq_true rfl) d_M_configure_59 ⟨Nat.le_of_ble_eq_true rfl, Nat.le_of_ble_eq_true rfl⟩ (fun H locs hw => ?_)
          have hI : InvM (mS (mS st 0 (m_refusal st 3)) 0 3) := invm_mS hI (by decide)
          exact z_iret (wf := fun _ : Unit => (wM bd G (m_configure st p1 p2).2 ++ wr)) (post := fun r _ => r = (m_configure st p1 p2).1) (u := ()) hx hb hr hlocks h0 (by rw [m_configure, if_pos c_13, if_neg c_24, if_neg c_31, if_pos c_54]; exact hw) rfl (by rw [m_configure, if_pos c_13, if_neg c_24, if_neg c_31, if_pos c_54]) (Nat.le_of_ble_eq_true rfl) (Nat.le_of_ble_eq_true rfl) d_M_configure_62
  · refine lv_iconst (v := 0) hx hb d_M_configure_16 (by decide) ?_
    exact z_iret (wf := fun _ : Unit => (wM bd G (m_configure st p1 p2).2 ++ wr)) (post := fun r _ => r = (m_configure st p1 p2).1) (u := ()) hx hb hr hlocks h0 (by rw [m_configure, if_neg c_13]; exact hw) rfl (by rw [m_configure, if_neg c_13]) (Nat.le_of_ble_eq_true rfl) (Nat.le_of_ble_eq_true rfl) d_M_configure_17
set_option maxHeartbeats 4000000 in
set_option maxRecDepth 100000 in
theorem c_M_shutdown (l : Launch) (G : gG) (bd : Nat → Nat) (st : MS) (wr : va_W) (sz : Nat)  (hI : InvM st) : Met l y_M_shutdown w_M_shutdown { frames := 2, cells := 0, slots := 0, locals := 45 } (va_Pc [.ref (bd 0)] (z_pre G (wM bd G st ++ wr) sz)) (z_Qi0 G (wM bd G st ++ wr) sz (wM bd G (m_shutdown st).2 ++ wr) (m_shutdown st).1) 0 0 (va_A (wM bd G st ++ wr) sz) := by
  refine Met.ofW (cc := b_M_shutdown) (maxL := 1) (ret := (some .int)) (by decide) rfl ?_
  intro p e s m args below meth c s₁ B hml hv
  obtain ⟨rfl, hsz, hP, hK, hD0, ham⟩ := hv
  subst hsz
  have hx := B.exec
  have hb := B.bytes
  have hr := B.returns
  have hts : ∀ w ∈ goT, w.before _ s = true := fun w h => atoms_spec (ws := w_M_shutdown) B.pre w (List.mem_cons_of_mem _ h)
  have hg : ∀ w, goB w = true → w.before _ s = true := fun w h => hts w (goI h)
  have hown : s.vm.findClass R_M = some m.cls := findClass_of_methodNamed B.named
  have hlocks := B.notSynchronized
  have h0 : z_st G (wM bd G st ++ wr) s := ⟨hK, ham⟩
  have hw : z_wl G (wM bd G st ++ wr) s (wM bd G st ++ wr) s.heap [] := z_0 hP hD0
  have hl := lv_entry ([.ref (bd 0)]) (n := 1) (Nat.le_of_ble_eq_true rfl)
  rw [lg_entry_eq]
  generalize (lg_sl ([.ref (bd 0)]) ++ List.replicate (1 - (lg_sl ([.ref (bd 0)])).length) Slot.unset).toArray = ls at hl ⊢
  have hl : lv_has ls 1 [(0, .ref (bd 0))] := hl
  refine lv_aload_n hx hb d_M_shutdown_0 rfl (lv_at hl 0 rfl) ?_
  refine lv_iconst (v := 0) hx hb d_M_shutdown_1 (by decide) ?_
  refine va_put (D := G.1) (ci := 3) (v := .int 0) (ty := .int) (C := R_M) (T := T_M) (N := 25) hx hb hts in_M ty_M ty_M_ok n_M hown h0.1 hw.1 hw.2.1 hw.2.2 0 rfl rfl 0 (by decide) (hg (.fieldLink R_M 54 "SecureEntryModel" "thrown" "I") (by decide +kernel)) (fun _ h9 => h9) rfl (by decide +kernel) rfl rfl (Nat.le_of_ble_eq_true rfl) d_M_shutdown_2 (fun H locs hP hD hS => ?_)
  have hI : InvM (mS st 0 0) := invm_mS hI (by decide)
  have hw : z_wl G (wM bd G st ++ wr) s (wM bd G (mS st 0 0) ++ wr) H locs := ⟨hP, hD, hS⟩
  refine lv_aload_n hx hb d_M_shutdown_5 rfl (lv_at hl 0 rfl) ?_
  refine va_get (D := G.1) (ci := 3) (v := .int (st.1 13)) (C := R_M) (T := T_M) (N := 25) hx hb hts in_M hown h0.1 hw.1 0 rfl rfl 13 (by decide) (hg (.fieldLink R_M 99 "SecureEntryModel" "up" "Z") (by decide +kernel)) (fun _ h9 => h9) rfl d_M_shutdown_6 ?_
  refine lv_if_eq (tgt := 26) hx hb d_M_shutdown_9 (by decide) (fun c_9 => ?_) (fun c_9 => ?_)
  · refine lv_aload_n hx hb d_M_shutdown_26 rfl (lv_at hl 0 rfl) ?_
    refine lv_iconst (v := 1) hx hb d_M_shutdown_27 (by decide) ?_
    refine z_Vi0 (As := [.int 1]) (v := 0) (ws1 := (wM bd G (mS (mS st 0 0) 0 1) ++ wr)) ⟨hx, hb, hml, hown, hts⟩ (c_M_raise l G bd (mS st 0 0) wr _ 1) (cwV 1 hts gV_M_81 rfl rfl rfl (by decide +kernel) ⟨Nat.le_of_ble_eq_true rfl, Nat.le_of_ble_eq_true rfl⟩) h0 hw 0 rfl rfl rfl rfl hl.1 rfl (Nat.le_of_ble_eq_true rfl) d_M_shutdown_28 ⟨Nat.le_of_ble_eq_true rfl, Nat.le_of_ble_eq_true rfl⟩ (fun H locs hw => ?_)
    have hI : InvM (mS (mS st 0 0) 0 1) := invm_mS hI (by decide)
    exact z_iret (wf := fun _ : Unit => (wM bd G (m_shutdown st).2 ++ wr)) (post := fun r _ => r = (m_shutdown st).1) (u := ()) hx hb hr hlocks h0 (by rw [m_shutdown, if_pos c_9]; exact hw) rfl (by rw [m_shutdown, if_pos c_9]) (Nat.le_of_ble_eq_true rfl) (Nat.le_of_ble_eq_true rfl) d_M_shutdown_31
  · refine lv_aload_n hx hb d_M_shutdown_12 rfl (lv_at hl 0 rfl) ?_
    refine va_get (D := G.1) (ci := 3) (v := .int (st.1 16)) (C := R_M) (T := T_M) (N := 25) hx hb hts in_M hown h0.1 hw.1 0 rfl rfl 16 (by decide) (hg (.fieldLink R_M 116 "SecureEntryModel" "role" "I") (by decide +kernel)) (fun _ h9 => h9) rfl d_M_shutdown_13 ?_
    refine lv_if_eq (tgt := 26) hx hb d_M_shutdown_16 (by decide) (fun c_16 => ?_) (fun c_16 => ?_)
    · refine lv_aload_n hx hb d_M_shutdown_26 rfl (lv_at hl 0 rfl) ?_
      refine lv_iconst (v := 1) hx hb d_M_shutdown_27 (by decide) ?_
      refine z_Vi0 (As := [.int 1]) (v := 0) (ws1 := (wM bd G (mS (mS st 0 0) 0 1) ++ wr)) ⟨hx, hb, hml, hown, hts⟩ (c_M_raise l G bd (mS st 0 0) wr _ 1) (cwV 1 hts gV_M_81 rfl rfl rfl (by decide +kernel) ⟨Nat.le_of_ble_eq_true rfl, Nat.le_of_ble_eq_true rfl⟩) h0 hw 0 rfl rfl rfl rfl hl.1 rfl (Nat.le_of_ble_eq_true rfl) d_M_shutdown_28 ⟨Nat.le_of_ble_eq_true rfl, Nat.le_of_ble_eq_true rfl⟩ (fun H locs hw => ?_)
      have hI : InvM (mS (mS st 0 0) 0 1) := invm_mS hI (by decide)
      exact z_iret (wf := fun _ : Unit => (wM bd G (m_shutdown st).2 ++ wr)) (post := fun r _ => r = (m_shutdown st).1) (u := ()) hx hb hr hlocks h0 (by rw [m_shutdown, if_neg c_9, if_pos c_16]; exact hw) rfl (by rw [m_shutdown, if_neg c_9, if_pos c_16]) (Nat.le_of_ble_eq_true rfl) (Nat.le_of_ble_eq_true rfl) d_M_shutdown_31
    · refine lv_aload_n hx hb d_M_shutdown_19 rfl (lv_at hl 0 rfl) ?_
      refine va_get (D := G.1) (ci := 3) (v := .int (st.1 18)) (C := R_M) (T := T_M) (N := 25) hx hb hts in_M hown h0.1 hw.1 0 rfl rfl 18 (by decide) (hg (.fieldLink R_M 151 "SecureEntryModel" "door" "Z") (by decide +kernel)) (fun _ h9 => h9) rfl d_M_shutdown_20 ?_
      refine lv_if_eq (tgt := 32) hx hb d_M_shutdown_23 (by decide) (fun c_23 => ?_) (fun c_23 => ?_)
      · refine lv_aload_n hx hb d_M_shutdown_32 rfl (lv_at hl 0 rfl) ?_
        refine va_get (D := G.1) (ci := 3) (v := .int (st.1 16)) (C := R_M) (T := T_M) (N := 25) hx hb hts in_M hown h0.1 hw.1 0 rfl rfl 16 (by decide) (hg (.fieldLink R_M 116 "SecureEntryModel" "role" "I") (by decide +kernel)) (fun _ h9 => h9) rfl d_M_shutdown_33 ?_
        refine lv_iconst (v := 3) hx hb d_M_shutdown_36 (by decide) ?_
        refine lv_icmp_eq (tgt := 46) hx hb d_M_shutdown_37 (by decide) (fun c_37 => ?_) (fun c_37 => ?_)
        · refine lv_aload_n hx hb d_M_shutdown_46 rfl (lv_at hl 0 rfl) ?_
          refine lv_bipush (v := 15) hx hb d_M_shutdown_47 (by decide) ?_
          refine lv_aload_n hx hb d_M_shutdown_49 rfl (lv_at hl 0 rfl) ?_
          refine va_get (D := G.1) (ci := 3) (v := .int (st.1 12)) (C := R_M) (T := T_M) (N := 25) hx hb hts in_M hown h0.1 hw.1 0 rfl rfl 12 (by decide) (hg (.fieldLink R_M 42 "SecureEntryModel" "inner" "I") (by decide +kernel)) (fun _ h9 => h9) rfl d_M_shutdown_50 ?_
          refine z_Vv0 (As := [.int 15, .int (st.1 12)]) (ws1 := (wM bd G (m_note (mS st 0 0) 15 (st.1 12)) ++ wr)) ⟨hx, hb, hml, hown, hts⟩ (c_M_note l G bd (mS st 0 0) wr _ 15 (st.1 12) hI hI.2.2.2) (cwV 2 hts gV_M_122 rfl rfl rfl (by decide +kernel) ⟨Nat.le_of_ble_eq_true rfl, Nat.le_of_ble_eq_true rfl⟩) h0 hw 0 rfl rfl rfl rfl hl.1 rfl (Nat.le_of_ble_eq_true rfl) d_M_shutdown_53 ⟨Nat.le_of_ble_eq_true rfl, Nat.le_of_ble_eq_true rfl⟩ (fun H locs hw => ?_)
          have hI : InvM (m_note (mS st 0 0) 15 (st.1 12)) := inv_m_note hI
          refine lv_aload_n hx hb d_M_shutdown_56 rfl (lv_at hl 0 rfl) ?_
          refine lv_iconst (v := 0) hx hb d_M_shutdown_57 (by decide) ?_
          refine va_put (D := G.1) (ci := 3) (v := .int 0) (ty := .boolean) (C := R_M) (T := T_M) (N := 25) hx hb hts in_M ty_M ty_M_ok n_M hown h0.1 hw.1 hw.2.1 hw.2.2 0 rfl rfl 13 (by decide) (hg (.fieldLink R_M 99 "SecureEntryModel" "up" "Z") (by decide +kernel)) (fun _ h9 => h9) rfl (by decide +kernel) rfl rfl (Nat.le_of_ble_eq_true rfl) d_M_shutdown_58 (fun H locs hP hD hS => ?_)
          have hI : InvM (mS (m_note (mS st 0 0) 15 (st.1 12)) 13 0) := invm_mS hI (by decide)
          have hw : z_wl G (wM bd G st ++ wr) s (wM bd G (mS (m_note (mS st 0 0) 15 (st.1 12)) 13 0) ++ wr) H locs := ⟨hP, hD, hS⟩
          refine lv_aload_n hx hb d_M_shutdown_61 rfl (lv_at hl 0 rfl) ?_
          refine lv_aload_n hx hb d_M_shutdown_62 rfl (lv_at hl 0 rfl) ?_
          refine va_get (D := G.1) (ci := 3) (v := .int ((m_note (mS st 0 0) 15 (st.1 12)).1 1)) (C := R_M) (T := T_M) (N := 25) hx hb hts in_M hown h0.1 hw.1 0 rfl rfl 1 (by decide) (hg (.fieldLink R_M 93 "SecureEntryModel" "time" "I") (by decide +kernel)) (fun _ h9 => h9) rfl d_M_shutdown_63 ?_
          refine va_put (D := G.1) (ci := 3) (v := .int ((m_note (mS st 0 0) 15 (st.1 12)).1 1)) (ty := .int) (C := R_M) (T := T_M) (N := 25) hx hb hts in_M ty_M ty_M_ok n_M hown h0.1 hw.1 hw.2.1 hw.2.2 0 rfl rfl 17 (by decide) (hg (.fieldLink R_M 139 "SecureEntryModel" "until" "I") (by decide +kernel)) (fun _ h9 => h9) rfl (by decide +kernel) rfl rfl (Nat.le_of_ble_eq_true rfl) d_M_shutdown_66 (fun H locs hP hD hS => ?_)
          have hI : InvM (mS (mS (m_note (mS st 0 0) 15 (st.1 12)) 13 0) 17 ((m_note (mS st 0 0) 15 (st.1 12)).1 1)) := invm_mS hI (by decide)
          have hw : z_wl G (wM bd G st ++ wr) s (wM bd G (mS (mS (m_note (mS st 0 0) 15 (st.1 12)) 13 0) 17 ((m_note (mS st 0 0) 15 (st.1 12)).1 1)) ++ wr) H locs := ⟨hP, hD, hS⟩
          refine lv_aload_n hx hb d_M_shutdown_69 rfl (lv_at hl 0 rfl) ?_
          refine lv_iconst (v := (-1)) hx hb d_M_shutdown_70 (by decide) ?_
          refine va_put (D := G.1) (ci := 3) (v := .int (-1)) (ty := .int) (C := R_M) (T := T_M) (N := 25) hx hb hts in_M ty_M ty_M_ok n_M hown h0.1 hw.1 hw.2.1 hw.2.2 0 rfl rfl 11 (by decide) (hg (.fieldLink R_M 38 "SecureEntryModel" "outer" "I") (by decide +kernel)) (fun _ h9 => h9) rfl (by decide +kernel) rfl rfl (Nat.le_of_ble_eq_true rfl) d_M_shutdown_71 (fun H locs hP hD hS => ?_)
          have hI : InvM (mS (mS (mS (m_note (mS st 0 0) 15 (st.1 12)) 13 0) 17 ((m_note (mS st 0 0) 15 (st.1 12)).1 1)) 11 (-1)) := invm_tok11 hI (by first | (unfold vp_in; decide) | assumption | exact Or.inl rfl | exact Or.inr (by assumption))
          have hw : z_wl G (wM bd G st ++ wr) s (wM bd G (mS (mS (mS (m_note (mS st 0 0) 15 (st.1 12)) 13 0) 17 ((m_note (mS st 0 0) 15 (st.1 12)).1 1)) 11 (-1)) ++ wr) H locs := ⟨hP, hD, hS⟩
          refine lv_aload_n hx hb d_M_shutdown_74 rfl (lv_at hl 0 rfl) ?_
          refine lv_iconst (v := (-1)) hx hb d_M_shutdown_75 (by decide) ?_
          refine va_put (D := G.1) (ci := 3) (v := .int (-1)) (ty := .int) (C := R_M) (T := T_M) (N := 25) hx hb hts in_M ty_M ty_M_ok n_M hown h0.1 hw.1 hw.2.1 hw.2.2 0 rfl rfl 12 (by decide) (hg (.fieldLink R_M 42 "SecureEntryModel" "inner" "I") (by decide +kernel)) (fun _ h9 => h9) rfl (by decide +kernel) rfl rfl (Nat.le_of_ble_eq_true rfl) d_M_shutdown_76 (fun H locs hP hD hS => ?_)
          have hI : InvM (mS (mS (mS (mS (m_note (mS st 0 0) 15 (st.1 12)) 13 0) 17 ((m_note (mS st 0 0) 15 (st.1 12)).1 1)) 11 (-1)) 12 (-1)) := invm_tok12 hI (by first | (unfold vp_in; decide) | assumption | exact Or.inl rfl | exact Or.inr (by assumption))
          have hw : z_wl G (wM bd G st ++ wr) s (wM bd G (mS (mS (mS (mS (m_note (mS st 0 0) 15 (st.1 12)) 13 0) 17 ((m_note (mS st 0 0) 15 (st.1 12)).1 1)) 11 (-1)) 12 (-1)) ++ wr) H locs := ⟨hP, hD, hS⟩
          refine lv_aload_n hx hb d_M_shutdown_79 rfl (lv_at hl 0 rfl) ?_
          refine lv_iconst (v := 0) hx hb d_M_shutdown_80 (by decide) ?_
          refine va_put (D := G.1) (ci := 3) (v := .int 0) (ty := .int) (C := R_M) (T := T_M) (N := 25) hx hb hts in_M ty_M ty_M_ok n_M hown h0.1 hw.1 hw.2.1 hw.2.2 0 rfl rfl 14 (by decide) (hg (.fieldLink R_M 113 "SecureEntryModel" "user" "I") (by decide +kernel)) (fun _ h9 => h9) rfl (by decide +kernel) rfl rfl (Nat.le_of_ble_eq_true rfl) d_M_shutdown_81 (fun H locs hP hD hS => ?_)
          have hI : InvM (mS (mS (mS (mS (mS (m_note (mS st 0 0) 15 (st.1 12)) 13 0) 17 ((m_note (mS st 0 0) 15 (st.1 12)).1 1)) 11 (-1)) 12 (-1)) 14 0) := invm_mS hI (by decide)
          have hw : z_wl G (wM bd G st ++ wr) s (wM bd G (mS (mS (mS (mS (mS (m_note (mS st 0 0) 15 (st.1 12)) 13 0) 17 ((m_note (mS st 0 0) 15 (st.1 12)).1 1)) 11 (-1)) 12 (-1)) 14 0) ++ wr) H locs := ⟨hP, hD, hS⟩
          refine lv_aload_n hx hb d_M_shutdown_84 rfl (lv_at hl 0 rfl) ?_
          refine lv_iconst (v := 0) hx hb d_M_shutdown_85 (by decide) ?_
          refine va_put (D := G.1) (ci := 3) (v := .int 0) (ty := .int) (C := R_M) (T := T_M) (N := 25) hx hb hts in_M ty_M ty_M_ok n_M hown h0.1 hw.1 hw.2.1 hw.2.2 0 rfl rfl 16 (by decide) (hg (.fieldLink R_M 116 "SecureEntryModel" "role" "I") (by decide +kernel)) (fun _ h9 => h9) rfl (by decide +kernel) rfl rfl (Nat.le_of_ble_eq_true rfl) d_M_shutdown_86 (fun H locs hP hD hS => ?_)
          have hI : InvM (mS (mS (mS (mS (mS (mS (m_note (mS st 0 0) 15 (st.1 12)) 13 0) 17 ((m_note (mS st 0 0) 15 (st.1 12)).1 1)) 11 (-1)) 12 (-1)) 14 0) 16 0) := invm_mS hI (by decide)
          have hw : z_wl G (wM bd G st ++ wr) s (wM bd G (mS (mS (mS (mS (mS (mS (m_note (mS st 0 0) 15 (st.1 12)) 13 0) 17 ((m_note (mS st 0 0) 15 (st.1 12)).1 1)) 11 (-1)) 12 (-1)) 14 0) 16 0) ++ wr) H locs := ⟨hP, hD, hS⟩
          refine lv_iconst (v := 1) hx hb d_M_shutdown_89 (by decide) ?_
          exact z_iret (wf := fun _ : Unit => (wM bd G (m_shutdown st).2 ++ wr)) (post := fun r _ => r = (m_shutdown st).1) (u := ()) hx hb hr hlocks h0 (by rw [m_shutdown, if_neg c_9, if_neg c_16, if_pos c_23, if_pos c_37]; exact hw) rfl (by rw [m_shutdown, if_neg c_9, if_neg c_16, if_pos c_23, if_pos c_37]) (Nat.le_of_ble_eq_true rfl) (Nat.le_of_ble_eq_true rfl) d_M_shutdown_90
        · refine lv_aload_n hx hb d_M_shutdown_40 rfl (lv_at hl 0 rfl) ?_
          refine lv_iconst (v := 2) hx hb d_M_shutdown_41 (by decide) ?_
          refine z_Vi0 (As := [.int 2]) (v := 0) (ws1 := (wM bd G (mS (mS st 0 0) 0 2) ++ wr)) ⟨hx, hb, hml, hown, hts⟩ (c_M_raise l G bd (mS st 0 0) wr _ 2) (cwV 1 hts gV_M_81 rfl rfl rfl (by decide +kernel) ⟨Nat.le_of_ble_eq_true rfl, Nat.le_of_ble_eq_true rfl⟩) h0 hw 0 rfl rfl rfl rfl hl.1 rfl (Nat.le_of_ble_eq_true rfl) d_M_shutdown_42 ⟨Nat.le_of_ble_eq_true rfl, Nat.le_of_ble_eq_true rfl⟩ (fun H locs hw => ?_)
          have hI : InvM (mS (mS st 0 0) 0 2) := invm_mS hI (by decide)
          exact z_iret (wf := fun _ : Unit => (wM bd G (m_shutdown st).2 ++ wr)) (post := fun r _ => r = (m_shutdown st).1) (u := ()) hx hb hr hlocks h0 (by rw [m_shutdown, if_neg c_9, if_neg c_16, if_pos c_23, if_neg c_37]; exact hw) rfl (by rw [m_shutdown, if_neg c_9, if_neg c_16, if_pos c_23, if_neg c_37]) (Nat.le_of_ble_eq_true rfl) (Nat.le_of_ble_eq_true rfl) d_M_shutdown_45
      · refine lv_aload_n hx hb d_M_shutdown_26 rfl (lv_at hl 0 rfl) ?_
        refine lv_iconst (v := 1) hx hb d_M_shutdown_27 (by decide) ?_
        refine z_Vi0 (As := [.int 1]) (v := 0) (ws1 := (wM bd G (mS (mS st 0 0) 0 1) ++ wr)) ⟨hx, hb, hml, hown, hts⟩ (c_M_raise l G bd (mS st 0 0) wr _ 1) (cwV 1 hts gV_M_81 rfl rfl rfl (by decide +kernel) ⟨Nat.le_of_ble_eq_true rfl, Nat.le_of_ble_eq_true rfl⟩) h0 hw 0 rfl rfl rfl rfl hl.1 rfl (Nat.le_of_ble_eq_true rfl) d_M_shutdown_28 ⟨Nat.le_of_ble_eq_true rfl, Nat.le_of_ble_eq_true rfl⟩ (fun H locs hw => ?_)
        have hI : InvM (mS (mS st 0 0) 0 1) := invm_mS hI (by decide)
        exact z_iret (wf := fun _ : Unit => (wM bd G (m_shutdown st).2 ++ wr)) (post := fun r _ => r = (m_shutdown st).1) (u := ()) hx hb hr hlocks h0 (by rw [m_shutdown, if_neg c_9, if_neg c_16, if_neg c_23]; exact hw) rfl (by rw [m_shutdown, if_neg c_9, if_neg c_16, if_neg c_23]) (Nat.le_of_ble_eq_true rfl) (Nat.le_of_ble_eq_true rfl) d_M_shutdown_31
set_option maxHeartbeats 4000000 in
set_option maxRecDepth 100000 in
theorem c_M_door (l : Launch) (G : gG) (bd : Nat → Nat) (st : MS) (wr : va_W) (sz : Nat) (p1 : Int32) (hI : InvM st) (hz : p1 = 0 ∨ p1 = 1) : Met l y_M_door w_M_door { frames := 1, cells := 0, slots := 0, locals := 23 } (va_Pc [.ref (bd 0), .int p1] (z_pre G (wM bd G st ++ wr) sz)) (z_Qi0 G (wM bd G st ++ wr) sz (wM bd G (m_door st p1).2 ++ wr) (m_door st p1).1) 0 0 (va_A (wM bd G st ++ wr) sz) := by
  refine Met.ofW (cc := b_M_door) (maxL := 2) (ret := (some .int)) (by decide) rfl ?_
  intro p e s m args below meth c s₁ B hml hv
  obtain ⟨rfl, hsz, hP, hK, hD0, ham⟩ := hv
  subst hsz
  have hx := B.exec
  have hb := B.bytes
  have hr := B.returns
  have hts : ∀ w ∈ goT, w.before _ s = true := fun w h => atoms_spec (ws := w_M_door) B.pre w (List.mem_cons_of_mem _ h)
  have hg : ∀ w, goB w = true → w.before _ s = true := fun w h => hts w (goI h)
  have hown : s.vm.findClass R_M = some m.cls := findClass_of_methodNamed B.named
  have hlocks := B.notSynchronized
  have h0 : z_st G (wM bd G st ++ wr) s := ⟨hK, ham⟩
  have hw : z_wl G (wM bd G st ++ wr) s (wM bd G st ++ wr) s.heap [] := z_0 hP hD0
  have hl := lv_entry ([.ref (bd 0), .int p1]) (n := 2) (Nat.le_of_ble_eq_true rfl)
  rw [lg_entry_eq]
  generalize (lg_sl ([.ref (bd 0), .int p1]) ++ List.replicate (2 - (lg_sl ([.ref (bd 0), .int p1])).length) Slot.unset).toArray = ls at hl ⊢
  have hl : lv_has ls 2 [(0, .ref (bd 0)), (1, .int p1)] := hl
  refine lv_aload_n hx hb d_M_door_0 rfl (lv_at hl 0 rfl) ?_
  refine lv_iconst (v := 0) hx hb d_M_door_1 (by decide) ?_
  refine va_put (D := G.1) (ci := 3) (v := .int 0) (ty := .int) (C := R_M) (T := T_M) (N := 25) hx hb hts in_M ty_M ty_M_ok n_M hown h0.1 hw.1 hw.2.1 hw.2.2 0 rfl rfl 0 (by decide) (hg (.fieldLink R_M 54 "SecureEntryModel" "thrown" "I") (by decide +kernel)) (fun _ h9 => h9) rfl (by decide +kernel) rfl rfl (Nat.le_of_ble_eq_true rfl) d_M_door_2 (fun H locs hP hD hS => ?_)
  have hI : InvM (mS st 0 0) := invm_mS hI (by decide)
  have hw : z_wl G (wM bd G st ++ wr) s (wM bd G (mS st 0 0) ++ wr) H locs := ⟨hP, hD, hS⟩
  refine lv_aload_n hx hb d_M_door_5 rfl (lv_at hl 0 rfl) ?_
  refine va_get (D := G.1) (ci := 3) (v := .int (st.1 18)) (C := R_M) (T := T_M) (N := 25) hx hb hts in_M hown h0.1 hw.1 0 rfl rfl 18 (by decide) (hg (.fieldLink R_M 151 "SecureEntryModel" "door" "Z") (by decide +kernel)) (fun _ h9 => h9) rfl d_M_door_6 ?_
  refine lv_iload_n hx hb d_M_door_9 rfl (lv_at hl 1 rfl) ?_
  refine lv_icmp_ne (tgt := 15) hx hb d_M_door_10 (by decide) (fun c_10 => ?_) (fun c_10 => ?_)
  · refine lv_aload_n hx hb d_M_door_15 rfl (lv_at hl 0 rfl) ?_
    refine lv_iload_n hx hb d_M_door_16 rfl (lv_at hl 1 rfl) ?_
    refine va_put (D := G.1) (ci := 3) (v := .int p1) (ty := .boolean) (C := R_M) (T := T_M) (N := 25) hx hb hts in_M ty_M ty_M_ok n_M hown h0.1 hw.1 hw.2.1 hw.2.2 0 rfl rfl 18 (by decide) (hg (.fieldLink R_M 151 "SecureEntryModel" "door" "Z") (by decide +kernel)) (fun _ h9 => h9) rfl (by decide +kernel) (z_nb hz) (z_fb hz) (Nat.le_of_ble_eq_true rfl) d_M_door_17 (fun H locs hP hD hS => ?_)
    have hI : InvM (mS (mS st 0 0) 18 p1) := invm_mS hI (by decide)
    have hw : z_wl G (wM bd G st ++ wr) s (wM bd G (mS (mS st 0 0) 18 p1) ++ wr) H locs := ⟨hP, hD, hS⟩
    refine lv_iload_n hx hb d_M_door_20 rfl (lv_at hl 1 rfl) ?_
    refine lv_if_eq (tgt := 57) hx hb d_M_door_21 (by decide) (fun c_21 => ?_) (fun c_21 => ?_)
    · refine lv_iconst (v := 1) hx hb d_M_door_57 (by decide) ?_
      exact z_iret (wf := fun _ : Unit => (wM bd G (m_door st p1).2 ++ wr)) (post := fun r _ => r = (m_door st p1).1) (u := ()) hx hb hr hlocks h0 (by rw [m_door, if_neg c_10, if_pos c_21]; exact hw) rfl (by rw [m_door, if_neg c_10, if_pos c_21]) (Nat.le_of_ble_eq_true rfl) (Nat.le_of_ble_eq_true rfl) d_M_door_58
    · refine lv_aload_n hx hb d_M_door_24 rfl (lv_at hl 0 rfl) ?_
      refine va_get (D := G.1) (ci := 3) (v := .int (st.1 1)) (C := R_M) (T := T_M) (N := 25) hx hb hts in_M hown h0.1 hw.1 0 rfl rfl 1 (by decide) (hg (.fieldLink R_M 93 "SecureEntryModel" "time" "I") (by decide +kernel)) (fun _ h9 => h9) rfl d_M_door_25 ?_
      refine lv_aload_n hx hb d_M_door_28 rfl (lv_at hl 0 rfl) ?_
      refine va_get (D := G.1) (ci := 3) (v := .int (st.1 17)) (C := R_M) (T := T_M) (N := 25) hx hb hts in_M hown h0.1 hw.1 0 rfl rfl 17 (by decide) (hg (.fieldLink R_M 139 "SecureEntryModel" "until" "I") (by decide +kernel)) (fun _ h9 => h9) rfl d_M_door_29 ?_
      refine lv_icmp_lt (tgt := 57) hx hb d_M_door_32 (by decide) (fun c_32 => ?_) (fun c_32 => ?_)
      · refine lv_iconst (v := 1) hx hb d_M_door_57 (by decide) ?_
        exact z_iret (wf := fun _ : Unit => (wM bd G (m_door st p1).2 ++ wr)) (post := fun r _ => r = (m_door st p1).1) (u := ()) hx hb hr hlocks h0 (by rw [m_door, if_neg c_10, if_neg c_21, if_pos c_32]; exact hw) rfl (by rw [m_door, if_neg c_10, if_neg c_21, if_pos c_32]) (Nat.le_of_ble_eq_true rfl) (Nat.le_of_ble_eq_true rfl) d_M_door_58
      · refine lv_aload_n hx hb d_M_door_35 rfl (lv_at hl 0 rfl) ?_
        refine lv_bipush (v := 9) hx hb d_M_door_36 (by decide) ?_
        refine lv_iconst (v := (-1)) hx hb d_M_door_38 (by decide) ?_
        refine z_Vv0 (As := [.int 9, .int (-1)]) (ws1 := (wM bd G (m_log (mS (mS st 0 0) 18 p1) 9 (-1)) ++ wr)) ⟨hx, hb, hml, hown, hts⟩ (c_M_log l G bd (mS (mS st 0 0) 18 p1) wr _ 9 (-1) hI) (cwV 2 hts gV_M_109 rfl rfl rfl (by decide +kernel) ⟨Nat.le_of_ble_eq_true rfl, Nat.le_of_ble_eq_true rfl⟩) h0 hw 0 rfl rfl rfl rfl hl.1 rfl (Nat.le_of_ble_eq_true rfl) d_M_door_39 ⟨Nat.le_of_ble_eq_true rfl, Nat.le_of_ble_eq_true rfl⟩ (fun H locs hw => ?_)
        have hI : InvM (m_log (mS (mS st 0 0) 18 p1) 9 (-1)) := inv_m_log hI
        refine lv_aload_n hx hb d_M_door_42 rfl (lv_at hl 0 rfl) ?_
        refine lv_aload_n hx hb d_M_door_43 rfl (lv_at hl 0 rfl) ?_
        refine va_get (D := G.1) (ci := 3) (v := .int ((m_log (mS (mS st 0 0) 18 p1) 9 (-1)).1 1)) (C := R_M) (T := T_M) (N := 25) hx hb hts in_M hown h0.1 hw.1 0 rfl rfl 1 (by decide) (hg (.fieldLink R_M 93 "SecureEntryModel" "time" "I") (by decide +kernel)) (fun _ h9 => h9) rfl d_M_door_44 ?_
        refine lv_aload_n hx hb d_M_door_47 rfl (lv_at hl 0 rfl) ?_
        refine va_get (D := G.1) (ci := 3) (v := .ref (bd 2)) (C := R_M) (T := T_M) (N := 25) hx hb hts in_M hown h0.1 hw.1 0 rfl rfl 2 (by decide) (hg (.fieldLink R_M 7 "SecureEntryModel" "config" "[I") (by decide +kernel)) (fun _ h9 => h9) rfl d_M_door_48 ?_
        refine lv_iconst (v := 1) hx hb d_M_door_51 (by decide) ?_
        refine va_iald (f := ((m_log (mS (mS st 0 0) 18 p1) 9 (-1)).2 2)) hx hb h0.1 hw.1 1 0 rfl rfl (show vp_in 1 6 by unfold vp_in; decide) d_M_door_52 ?_
        refine lv_iadd hx hb d_M_door_53 ?_
        refine va_put (D := G.1) (ci := 3) (v := .int (((m_log (mS (mS st 0 0) 18 p1) 9 (-1)).1 1) + (((m_log (mS (mS st 0 0) 18 p1) 9 (-1)).2 2) (1 : Int32).toNatClampNeg))) (ty := .int) (C := R_M) (T := T_M) (N := 25) hx hb hts in_M ty_M ty_M_ok n_M hown h0.1 hw.1 hw.2.1 hw.2.2 0 rfl rfl 19 (by decide) (hg (.fieldLink R_M 142 "SecureEntryModel" "alarmTime" "I") (by decide +kernel)) (fun _ h9 => h9) rfl (by decide +kernel) rfl rfl (Nat.le_of_ble_eq_true rfl) d_M_door_54 (fun H locs hP hD hS => ?_)
        have hI : InvM (mS (m_log (mS (mS st 0 0) 18 p1) 9 (-1)) 19 (((m_log (mS (mS st 0 0) 18 p1) 9 (-1)).1 1) + (((m_log (mS (mS st 0 0) 18 p1) 9 (-1)).2 2) (1 : Int32).toNatClampNeg))) := invm_mS hI (by decide)
        have hw : z_wl G (wM bd G st ++ wr) s (wM bd G (mS (m_log (mS (mS st 0 0) 18 p1) 9 (-1)) 19 (((m_log (mS (mS st 0 0) 18 p1) 9 (-1)).1 1) + (((m_log (mS (mS st 0 0) 18 p1) 9 (-1)).2 2) (1 : Int32).toNatClampNeg))) ++ wr) H locs := ⟨hP, hD, hS⟩
        refine lv_iconst (v := 1) hx hb d_M_door_57 (by decide) ?_
        exact z_iret (wf := fun _ : Unit => (wM bd G (m_door st p1).2 ++ wr)) (post := fun r _ => r = (m_door st p1).1) (u := ()) hx hb hr hlocks h0 (by rw [m_door, if_neg c_10, if_neg c_21, if_neg c_32]; exact hw) rfl (by rw [m_door, if_neg c_10, if_neg c_21, if_neg c_32]) (Nat.le_of_ble_eq_true rfl) (Nat.le_of_ble_eq_true rfl) d_M_door_58
  · refine lv_iconst (v := 0) hx hb d_M_door_13 (by decide) ?_
    exact z_iret (wf := fun _ : Unit => (wM bd G (m_door st p1).2 ++ wr)) (post := fun r _ => r = (m_door st p1).1) (u := ()) hx hb hr hlocks h0 (by rw [m_door, if_pos c_10]; exact hw) rfl (by rw [m_door, if_pos c_10]) (Nat.le_of_ble_eq_true rfl) (Nat.le_of_ble_eq_true rfl) d_M_door_14

end MC
