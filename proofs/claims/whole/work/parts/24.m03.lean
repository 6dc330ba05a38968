section MC
set_option maxHeartbeats 4000000 in
set_option maxRecDepth 100000 in
theorem c_M_put (l : Launch) (G : gG) (bd : Nat → Nat) (st : MS) (wr : va_W) (sz : Nat) (p1 : Int32) (p2 : Int32) (p3 : Int32) (p4 : Int32) (p5 : Int32) (p6 : Int32) (hp1 : vp_in p1 24) (hp2 : vp_in p2 7) : Met l y_M_put w_M_put { frames := 1, cells := 0, slots := 0, locals := 28 } (va_Pc [.ref (bd 0), .int p1, .int p2, .int p3, .int p4, .int p5, .int p6] (z_pre G (wM bd G st ++ wr) sz)) (z_Qv0 G (wM bd G st ++ wr) sz (wM bd G (m_put st p1 p2 p3 p4 p5 p6) ++ wr)) 0 0 (va_A (wM bd G st ++ wr) sz) := by
  refine Met.ofW (cc := b_M_put) (maxL := 7) (ret := none) (by decide) rfl ?_
  intro p e s m args below meth c s₁ B hml hv
  obtain ⟨rfl, hsz, hP, hK, hD0, ham⟩ := hv
  subst hsz
  have hx := B.exec
  have hb := B.bytes
  have hr := B.returns
  have hts : ∀ w ∈ goT, w.before _ s = true := fun w h => atoms_spec (ws := w_M_put) B.pre w (List.mem_cons_of_mem _ h)
  have hg : ∀ w, goB w = true → w.before _ s = true := fun w h => hts w (goI h)
  have hown : s.vm.findClass R_M = some m.cls := findClass_of_methodNamed B.named
  have hlocks := B.notSynchronized
  have h0 : z_st G (wM bd G st ++ wr) s := ⟨hK, ham⟩
  have hw : z_wl G (wM bd G st ++ wr) s (wM bd G st ++ wr) s.heap [] := z_0 hP hD0
  have hl := lv_entry ([.ref (bd 0), .int p1, .int p2, .int p3, .int p4, .int p5, .int p6]) (n := 7) (Nat.le_of_ble_eq_true rfl)
  rw [lg_entry_eq]
  generalize (lg_sl ([.ref (bd 0), .int p1, .int p2, .int p3, .int p4, .int p5, .int p6]) ++ List.replicate (7 - (lg_sl ([.ref (bd 0), .int p1, .int p2, .int p3, .int p4, .int p5, .int p6])).length) Slot.unset).toArray = ls at hl ⊢
  have hl : lv_has ls 7 [(0, .ref (bd 0)), (1, .int p1), (2, .int p2), (3, .int p3), (4, .int p4), (5, .int p5), (6, .int p6)] := hl
  refine lv_aload_n hx hb d_M_put_0 rfl (lv_at hl 0 rfl) ?_
  refine va_get (D := G.1) (ci := 3) (v := .ref (bd 4)) (C := R_M) (T := T_M) (N := 25) hx hb hts in_M hown h0.1 hw.1 0 rfl rfl 4 (by decide) (hg (.fieldLink R_M 16 "SecureEntryModel" "has" "[Z") (by decide +kernel)) (fun _ h9 => h9) rfl d_M_put_1 ?_
  refine lv_iload_n hx hb d_M_put_4 rfl (lv_at hl 1 rfl) ?_
  refine lv_iconst (v := 1) hx hb d_M_put_5 (by decide) ?_
  refine va_zast hx hb h0.1 hw.1 hw.2.1 hw.2.2 3 3 rfl rfl hp1 d_M_put_6 (fun H locs hP hD hS => ?_)
  have hw : z_wl G (wM bd G st ++ wr) s (wM bd G (mA st 4 (upd (st.2 4) p1.toNatClampNeg 1)) ++ wr) H locs := ⟨hP, hD, hS⟩
  refine lv_aload_n hx hb d_M_put_7 rfl (lv_at hl 0 rfl) ?_
  refine va_get (D := G.1) (ci := 3) (v := .ref (bd 5)) (C := R_M) (T := T_M) (N := 25) hx hb hts in_M hown h0.1 hw.1 0 rfl rfl 5 (by decide) (hg (.fieldLink R_M 20 "SecureEntryModel" "issuer" "[I") (by decide +kernel)) (fun _ h9 => h9) rfl d_M_put_8 ?_
  refine lv_iload_n hx hb d_M_put_11 rfl (lv_at hl 1 rfl) ?_
  refine lv_iload_n hx hb d_M_put_12 rfl (lv_at hl 2 rfl) ?_
  refine va_iast hx hb h0.1 hw.1 hw.2.1 hw.2.2 4 0 rfl rfl hp1 d_M_put_13 (fun H locs hP hD hS => ?_)
  have hw : z_wl G (wM bd G st ++ wr) s (wM bd G (mA (mA st 4 (upd (st.2 4) p1.toNatClampNeg 1)) 5 (upd (st.2 5) p1.toNatClampNeg p2)) ++ wr) H locs := ⟨hP, hD, hS⟩
  refine lv_aload_n hx hb d_M_put_14 rfl (lv_at hl 0 rfl) ?_
  refine va_get (D := G.1) (ci := 3) (v := .ref (bd 6)) (C := R_M) (T := T_M) (N := 25) hx hb hts in_M hown h0.1 hw.1 0 rfl rfl 6 (by decide) (hg (.fieldLink R_M 23 "SecureEntryModel" "holder" "[I") (by decide +kernel)) (fun _ h9 => h9) rfl d_M_put_15 ?_
  refine lv_iload_n hx hb d_M_put_18 rfl (lv_at hl 1 rfl) ?_
  refine lv_iload_n hx hb d_M_put_19 rfl (lv_at hl 3 rfl) ?_
  refine va_iast hx hb h0.1 hw.1 hw.2.1 hw.2.2 5 0 rfl rfl hp1 d_M_put_20 (fun H locs hP hD hS => ?_)
  have hw : z_wl G (wM bd G st ++ wr) s (wM bd G (mA (mA (mA st 4 (upd (st.2 4) p1.toNatClampNeg 1)) 5 (upd (st.2 5) p1.toNatClampNeg p2)) 6 (upd (st.2 6) p1.toNatClampNeg p3)) ++ wr) H locs := ⟨hP, hD, hS⟩
  refine lv_aload_n hx hb d_M_put_21 rfl (lv_at hl 0 rfl) ?_
  refine va_get (D := G.1) (ci := 3) (v := .ref (bd 7)) (C := R_M) (T := T_M) (N := 25) hx hb hts in_M hown h0.1 hw.1 0 rfl rfl 7 (by decide) (hg (.fieldLink R_M 26 "SecureEntryModel" "value" "[I") (by decide +kernel)) (fun _ h9 => h9) rfl d_M_put_22 ?_
  refine lv_iload_n hx hb d_M_put_25 rfl (lv_at hl 1 rfl) ?_
  refine lv_iload hx hb d_M_put_26 (lv_at hl 4 rfl) ?_
  refine va_iast hx hb h0.1 hw.1 hw.2.1 hw.2.2 6 0 rfl rfl hp1 d_M_put_28 (fun H locs hP hD hS => ?_)
  have hw : z_wl G (wM bd G st ++ wr) s (wM bd G (mA (mA (mA (mA st 4 (upd (st.2 4) p1.toNatClampNeg 1)) 5 (upd (st.2 5) p1.toNatClampNeg p2)) 6 (upd (st.2 6) p1.toNatClampNeg p3)) 7 (upd (st.2 7) p1.toNatClampNeg p4)) ++ wr) H locs := ⟨hP, hD, hS⟩
  refine lv_aload_n hx hb d_M_put_29 rfl (lv_at hl 0 rfl) ?_
  refine va_get (D := G.1) (ci := 3) (v := .ref (bd 8)) (C := R_M) (T := T_M) (N := 25) hx hb hts in_M hown h0.1 hw.1 0 rfl rfl 8 (by decide) (hg (.fieldLink R_M 29 "SecureEntryModel" "from" "[I") (by decide +kernel)) (fun _ h9 => h9) rfl d_M_put_30 ?_
  refine lv_iload_n hx hb d_M_put_33 rfl (lv_at hl 1 rfl) ?_
  refine lv_iload hx hb d_M_put_34 (lv_at hl 5 rfl) ?_
  refine va_iast hx hb h0.1 hw.1 hw.2.1 hw.2.2 7 0 rfl rfl hp1 d_M_put_36 (fun H locs hP hD hS => ?_)
  have hw : z_wl G (wM bd G st ++ wr) s (wM bd G (mA (mA (mA (mA (mA st 4 (upd (st.2 4) p1.toNatClampNeg 1)) 5 (upd (st.2 5) p1.toNatClampNeg p2)) 6 (upd (st.2 6) p1.toNatClampNeg p3)) 7 (upd (st.2 7) p1.toNatClampNeg p4)) 8 (upd (st.2 8) p1.toNatClampNeg p5)) ++ wr) H locs := ⟨hP, hD, hS⟩
  refine lv_aload_n hx hb d_M_put_37 rfl (lv_at hl 0 rfl) ?_
  refine va_get (D := G.1) (ci := 3) (v := .ref (bd 9)) (C := R_M) (T := T_M) (N := 25) hx hb hts in_M hown h0.1 hw.1 0 rfl rfl 9 (by decide) (hg (.fieldLink R_M 32 "SecureEntryModel" "to" "[I") (by decide +kernel)) (fun _ h9 => h9) rfl d_M_put_38 ?_
  refine lv_iload_n hx hb d_M_put_41 rfl (lv_at hl 1 rfl) ?_
  refine lv_iload hx hb d_M_put_42 (lv_at hl 6 rfl) ?_
  refine va_iast hx hb h0.1 hw.1 hw.2.1 hw.2.2 8 0 rfl rfl hp1 d_M_put_44 (fun H locs hP hD hS => ?_)
  have hw : z_wl G (wM bd G st ++ wr) s (wM bd G (mA (mA (mA (mA (mA (mA st 4 (upd (st.2 4) p1.toNatClampNeg 1)) 5 (upd (st.2 5) p1.toNatClampNeg p2)) 6 (upd (st.2 6) p1.toNatClampNeg p3)) 7 (upd (st.2 7) p1.toNatClampNeg p4)) 8 (upd (st.2 8) p1.toNatClampNeg p5)) 9 (upd (st.2 9) p1.toNatClampNeg p6)) ++ wr) H locs := ⟨hP, hD, hS⟩
  refine lv_aload_n hx hb d_M_put_45 rfl (lv_at hl 0 rfl) ?_
  refine va_get (D := G.1) (ci := 3) (v := .ref (bd 10)) (C := R_M) (T := T_M) (N := 25) hx hb hts in_M hown h0.1 hw.1 0 rfl rfl 10 (by decide) (hg (.fieldLink R_M 35 "SecureEntryModel" "sign" "[I") (by decide +kernel)) (fun _ h9 => h9) rfl d_M_put_46 ?_
  refine lv_iload_n hx hb d_M_put_49 rfl (lv_at hl 1 rfl) ?_
  refine lv_aload_n hx hb d_M_put_50 rfl (lv_at hl 0 rfl) ?_
  refine lv_iload_n hx hb d_M_put_51 rfl (lv_at hl 1 rfl) ?_
  refine lv_iconst (v := 4) hx hb d_M_put_52 (by decide) ?_
  refine lv_irem hx hb d_M_put_53 (by decide) ?_
  refine lv_iload_n hx hb d_M_put_54 rfl (lv_at hl 2 rfl) ?_
  refine lv_iload_n hx hb d_M_put_55 rfl (lv_at hl 3 rfl) ?_
  refine lv_iload hx hb d_M_put_56 (lv_at hl 4 rfl) ?_
  refine lv_iload hx hb d_M_put_58 (lv_at hl 5 rfl) ?_
  refine lv_iload hx hb d_M_put_60 (lv_at hl 6 rfl) ?_
  refine z_Vi0 (As := [.int (p1 - p1 / 4 * 4), .int p2, .int p3, .int p4, .int p5, .int p6]) (v := (m_right (mA (mA (mA (mA (mA (mA st 4 (upd (st.2 4) p1.toNatClampNeg 1)) 5 (upd (st.2 5) p1.toNatClampNeg p2)) 6 (upd (st.2 6) p1.toNatClampNeg p3)) 7 (upd (st.2 7) p1.toNatClampNeg p4)) 8 (upd (st.2 8) p1.toNatClampNeg p5)) 9 (upd (st.2 9) p1.toNatClampNeg p6)) (p1 - p1 / 4 * 4) p2 p3 p4 p5 p6)) ⟨hx, hb, hml, hown, hts⟩ (c_M_right l G bd (mA (mA (mA (mA (mA (mA st 4 (upd (st.2 4) p1.toNatClampNeg 1)) 5 (upd (st.2 5) p1.toNatClampNeg p2)) 6 (upd (st.2 6) p1.toNatClampNeg p3)) 7 (upd (st.2 7) p1.toNatClampNeg p4)) 8 (upd (st.2 8) p1.toNatClampNeg p5)) 9 (upd (st.2 9) p1.toNatClampNeg p6)) wr _ (p1 - p1 / 4 * 4) p2 p3 p4 p5 p6 hp2) (cwV 6 hts gV_M_77 rfl rfl rfl (by decide +kernel) ⟨Nat.le_of_ble_eq_true rfl, Nat.le_of_ble_eq_true rfl⟩) h0 hw 0 rfl rfl rfl rfl hl.1 rfl (Nat.le_of_ble_eq_true rfl) d_M_put_62 ⟨Nat.le_of_ble_eq_true rfl, Nat.le_of_ble_eq_true rfl⟩ (fun H locs hw => ?_)
  refine va_iast hx hb h0.1 hw.1 hw.2.1 hw.2.2 9 0 rfl rfl hp1 d_M_put_65 (fun H locs hP hD hS => ?_)
  have hw : z_wl G (wM bd G st ++ wr) s (wM bd G (mA (mA (mA (mA (mA (mA (mA st 4 (upd (st.2 4) p1.toNatClampNeg 1)) 5 (upd (st.2 5) p1.toNatClampNeg p2)) 6 (upd (st.2 6) p1.toNatClampNeg p3)) 7 (upd (st.2 7) p1.toNatClampNeg p4)) 8 (upd (st.2 8) p1.toNatClampNeg p5)) 9 (upd (st.2 9) p1.toNatClampNeg p6)) 10 (upd (st.2 10) p1.toNatClampNeg (m_right (mA (mA (mA (mA (mA (mA st 4 (upd (st.2 4) p1.toNatClampNeg 1)) 5 (upd (st.2 5) p1.toNatClampNeg p2)) 6 (upd (st.2 6) p1.toNatClampNeg p3)) 7 (upd (st.2 7) p1.toNatClampNeg p4)) 8 (upd (st.2 8) p1.toNatClampNeg p5)) 9 (upd (st.2 9) p1.toNatClampNeg p6)) (p1 - p1 / 4 * 4) p2 p3 p4 p5 p6))) ++ wr) H locs := ⟨hP, hD, hS⟩
  exact z_vret (wf := fun _ : Unit => (wM bd G (m_put st p1 p2 p3 p4 p5 p6) ++ wr)) (u := ()) hx hb hr hlocks h0 (by rw [m_put]; exact hw) trivial (Nat.le_of_ble_eq_true rfl) (Nat.le_of_ble_eq_true rfl) d_M_put_66
set_option maxHeartbeats 4000000 in
set_option maxRecDepth 100000 in
theorem c_M_valid (l : Launch) (G : gG) (bd : Nat → Nat) (st : MS) (wr : va_W) (sz : Nat) (p1 : Int32) (hI : InvM st) (hp1 : vp_in p1 24) : Met l y_M_valid w_M_valid { frames := 1, cells := 0, slots := 0, locals := 28 } (va_Pc [.ref (bd 0), .int p1] (z_pre G (wM bd G st ++ wr) sz)) (z_Qi0 G (wM bd G st ++ wr) sz (wM bd G st ++ wr) (m_valid st p1)) 0 0 (va_A (wM bd G st ++ wr) sz) := by
  refine Met.ofW (cc := b_M_valid) (maxL := 3) (ret := (some .boolean)) (by decide) rfl ?_
  intro p e s m args below meth c s₁ B hml hv
  obtain ⟨rfl, hsz, hP, hK, hD0, ham⟩ := hv
  subst hsz
  have hx := B.exec
  have hb := B.bytes
  have hr := B.returns
  have hts : ∀ w ∈ goT, w.before _ s = true := fun w h => atoms_spec (ws := w_M_valid) B.pre w (List.mem_cons_of_mem _ h)
  have hg : ∀ w, goB w = true → w.before _ s = true := fun w h => hts w (goI h)
  have hown : s.vm.findClass R_M = some m.cls := findClass_of_methodNamed B.named
  have hlocks := B.notSynchronized
  have h0 : z_st G (wM bd G st ++ wr) s := ⟨hK, ham⟩
  have hw : z_wl G (wM bd G st ++ wr) s (wM bd G st ++ wr) s.heap [] := z_0 hP hD0
  have hl := lv_entry ([.ref (bd 0), .int p1]) (n := 3) (Nat.le_of_ble_eq_true rfl)
  rw [lg_entry_eq]
  generalize (lg_sl ([.ref (bd 0), .int p1]) ++ List.replicate (3 - (lg_sl ([.ref (bd 0), .int p1])).length) Slot.unset).toArray = ls at hl ⊢
  have hl : lv_has ls 3 [(0, .ref (bd 0)), (1, .int p1)] := hl
  refine lv_aload_n hx hb d_M_valid_0 rfl (lv_at hl 0 rfl) ?_
  refine va_get (D := G.1) (ci := 3) (v := .ref (bd 4)) (C := R_M) (T := T_M) (N := 25) hx hb hts in_M hown h0.1 hw.1 0 rfl rfl 4 (by decide) (hg (.fieldLink R_M 16 "SecureEntryModel" "has" "[Z") (by decide +kernel)) (fun _ h9 => h9) rfl d_M_valid_1 ?_
  refine lv_iload_n hx hb d_M_valid_4 rfl (lv_at hl 1 rfl) ?_
  refine va_zald (f := (st.2 4)) hx hb h0.1 hw.1 3 3 rfl rfl hp1 d_M_valid_5 ?_
  refine lv_if_eq (tgt := 49) hx hb d_M_valid_6 (by decide) (fun c_6 => ?_) (fun c_6 => ?_)
  · refine lv_iconst (v := 0) hx hb d_M_valid_49 (by decide) ?_
    exact z_iret (wf := fun _ : Unit => (wM bd G st ++ wr)) (u := ()) hx hb hr hlocks h0 hw rfl (by rw [m_valid, if_pos c_6]) (Nat.le_of_ble_eq_true rfl) (Nat.le_of_ble_eq_true rfl) d_M_valid_50
  · refine lv_aload_n hx hb d_M_valid_9 rfl (lv_at hl 0 rfl) ?_
    refine va_get (D := G.1) (ci := 3) (v := .ref (bd 3)) (C := R_M) (T := T_M) (N := 25) hx hb hts in_M hown h0.1 hw.1 0 rfl rfl 3 (by decide) (hg (.fieldLink R_M 13 "SecureEntryModel" "keys" "[I") (by decide +kernel)) (fun _ h9 => h9) rfl d_M_valid_10 ?_
    refine lv_aload_n hx hb d_M_valid_13 rfl (lv_at hl 0 rfl) ?_
    refine va_get (D := G.1) (ci := 3) (v := .ref (bd 5)) (C := R_M) (T := T_M) (N := 25) hx hb hts in_M hown h0.1 hw.1 0 rfl rfl 5 (by decide) (hg (.fieldLink R_M 20 "SecureEntryModel" "issuer" "[I") (by decide +kernel)) (fun _ h9 => h9) rfl d_M_valid_14 ?_
    refine lv_iload_n hx hb d_M_valid_17 rfl (lv_at hl 1 rfl) ?_
    refine va_iald (f := (st.2 5)) hx hb h0.1 hw.1 4 0 rfl rfl hp1 d_M_valid_18 ?_
    refine va_iald (f := (st.2 3)) hx hb h0.1 hw.1 2 0 rfl rfl (hI.1 _ (z_cl hp1)) d_M_valid_19 ?_
    refine lv_if_eq (tgt := 49) hx hb d_M_valid_20 (by decide) (fun c_20 => ?_) (fun c_20 => ?_)
    · refine lv_iconst (v := 0) hx hb d_M_valid_49 (by decide) ?_
      exact z_iret (wf := fun _ : Unit => (wM bd G st ++ wr)) (u := ()) hx hb hr hlocks h0 hw rfl (by rw [m_valid, if_neg c_6, if_pos c_20]) (Nat.le_of_ble_eq_true rfl) (Nat.le_of_ble_eq_true rfl) d_M_valid_50
    · refine lv_aload_n hx hb d_M_valid_23 rfl (lv_at hl 0 rfl) ?_
      refine va_get (D := G.1) (ci := 3) (v := .int (st.1 1)) (C := R_M) (T := T_M) (N := 25) hx hb hts in_M hown h0.1 hw.1 0 rfl rfl 1 (by decide) (hg (.fieldLink R_M 93 "SecureEntryModel" "time" "I") (by decide +kernel)) (fun _ h9 => h9) rfl d_M_valid_24 ?_
      refine lv_aload_n hx hb d_M_valid_27 rfl (lv_at hl 0 rfl) ?_
      refine va_get (D := G.1) (ci := 3) (v := .ref (bd 8)) (C := R_M) (T := T_M) (N := 25) hx hb hts in_M hown h0.1 hw.1 0 rfl rfl 8 (by decide) (hg (.fieldLink R_M 29 "SecureEntryModel" "from" "[I") (by decide +kernel)) (fun _ h9 => h9) rfl d_M_valid_28 ?_
      refine lv_iload_n hx hb d_M_valid_31 rfl (lv_at hl 1 rfl) ?_
      refine va_iald (f := (st.2 8)) hx hb h0.1 hw.1 7 0 rfl rfl hp1 d_M_valid_32 ?_
      refine lv_icmp_lt (tgt := 49) hx hb d_M_valid_33 (by decide) (fun c_33 => ?_) (fun c_33 => ?_)
      · refine lv_iconst (v := 0) hx hb d_M_valid_49 (by decide) ?_
        exact z_iret (wf := fun _ : Unit => (wM bd G st ++ wr)) (u := ()) hx hb hr hlocks h0 hw rfl (by rw [m_valid, if_neg c_6, if_neg c_20, if_pos c_33]) (Nat.le_of_ble_eq_true rfl) (Nat.le_of_ble_eq_true rfl) d_M_valid_50
      · refine lv_aload_n hx hb d_M_valid_36 rfl (lv_at hl 0 rfl) ?_
        refine va_get (D := G.1) (ci := 3) (v := .int (st.1 1)) (C := R_M) (T := T_M) (N := 25) hx hb hts in_M hown h0.1 hw.1 0 rfl rfl 1 (by decide) (hg (.fieldLink R_M 93 "SecureEntryModel" "time" "I") (by decide +kernel)) (fun _ h9 => h9) rfl d_M_valid_37 ?_
        refine lv_aload_n hx hb d_M_valid_40 rfl (lv_at hl 0 rfl) ?_
        refine va_get (D := G.1) (ci := 3) (v := .ref (bd 9)) (C := R_M) (T := T_M) (N := 25) hx hb hts in_M hown h0.1 hw.1 0 rfl rfl 9 (by decide) (hg (.fieldLink R_M 32 "SecureEntryModel" "to" "[I") (by decide +kernel)) (fun _ h9 => h9) rfl d_M_valid_41 ?_
        refine lv_iload_n hx hb d_M_valid_44 rfl (lv_at hl 1 rfl) ?_
        refine va_iald (f := (st.2 9)) hx hb h0.1 hw.1 8 0 rfl rfl hp1 d_M_valid_45 ?_
        refine lv_icmp_le (tgt := 51) hx hb d_M_valid_46 (by decide) (fun c_46 => ?_) (fun c_46 => ?_)
        · refine lv_iload_n hx hb d_M_valid_51 rfl (lv_at hl 1 rfl) ?_
          refine lv_iconst (v := 4) hx hb d_M_valid_52 (by decide) ?_
          refine lv_irem hx hb d_M_valid_53 (by decide) ?_
          refine lv_istore_n (lv' := [(2, .int (p1 - p1 / 4 * 4)), (0, .ref (bd 0)), (1, .int p1)]) hx hb d_M_valid_54 rfl hl (by decide) rfl (fun ls hl => ?_)
          refine lv_iload_n hx hb d_M_valid_55 rfl (lv_at hl 0 rfl) ?_
          refine lv_iconst (v := 1) hx hb d_M_valid_56 (by decide) ?_
          refine lv_icmp_eq (tgt := 65) hx hb d_M_valid_57 (by decide) (fun c_57 => ?_) (fun c_57 => ?_)
          · refine lv_aload_n hx hb d_M_valid_65 rfl (lv_at hl 1 rfl) ?_
            refine va_get (D := G.1) (ci := 3) (v := .ref (bd 7)) (C := R_M) (T := T_M) (N := 25) hx hb hts in_M hown h0.1 hw.1 0 rfl rfl 7 (by decide) (hg (.fieldLink R_M 26 "SecureEntryModel" "value" "[I") (by decide +kernel)) (fun _ h9 => h9) rfl d_M_valid_66 ?_
            refine lv_iload_n hx hb d_M_valid_69 rfl (lv_at hl 2 rfl) ?_
            refine va_iald (f := (st.2 7)) hx hb h0.1 hw.1 6 0 rfl rfl hp1 d_M_valid_70 ?_
            refine lv_bipush (v := 15) hx hb d_M_valid_71 (by decide) ?_
            refine lv_icmp_gt (tgt := 92) hx hb d_M_valid_73 (by decide) (fun c_73 => ?_) (fun c_73 => ?_)
            · refine lv_iconst (v := 0) hx hb d_M_valid_92 (by decide) ?_
              exact z_iret (wf := fun _ : Unit => (wM bd G st ++ wr)) (u := ()) hx hb hr hlocks h0 hw rfl (by rw [m_valid, if_neg c_6, if_neg c_20, if_neg c_33, if_pos c_46, if_pos c_57, if_pos c_73]) (Nat.le_of_ble_eq_true rfl) (Nat.le_of_ble_eq_true rfl) d_M_valid_93
            · refine lv_iload_n hx hb d_M_valid_76 rfl (lv_at hl 0 rfl) ?_
              refine lv_iconst (v := 3) hx hb d_M_valid_77 (by decide) ?_
              refine lv_icmp_ne (tgt := 94) hx hb d_M_valid_78 (by decide) (fun c_78 => ?_) (fun c_78 => ?_)
              · refine lv_aload_n hx hb d_M_valid_94 rfl (lv_at hl 1 rfl) ?_
                refine va_get (D := G.1) (ci := 3) (v := .ref (bd 10)) (C := R_M) (T := T_M) (N := 25) hx hb hts in_M hown h0.1 hw.1 0 rfl rfl 10 (by decide) (hg (.fieldLink R_M 35 "SecureEntryModel" "sign" "[I") (by decide +kernel)) (fun _ h9 => h9) rfl d_M_valid_95 ?_
                refine lv_iload_n hx hb d_M_valid_98 rfl (lv_at hl 2 rfl) ?_
                refine va_iald (f := (st.2 10)) hx hb h0.1 hw.1 9 0 rfl rfl hp1 d_M_valid_99 ?_
                refine lv_aload_n hx hb d_M_valid_100 rfl (lv_at hl 1 rfl) ?_
                refine lv_iload_n hx hb d_M_valid_101 rfl (lv_at hl 0 rfl) ?_
                refine lv_aload_n hx hb d_M_valid_102 rfl (lv_at hl 1 rfl) ?_
                refine va_get (D := G.1) (ci := 3) (v := .ref (bd 5)) (C := R_M) (T := T_M) (N := 25) hx hb hts in_M hown h0.1 hw.1 0 rfl rfl 5 (by decide) (hg (.fieldLink R_M 20 "SecureEntryModel" "issuer" "[I") (by decide +kernel)) (fun _ h9 => h9) rfl d_M_valid_103 ?_
                refine lv_iload_n hx hb d_M_valid_106 rfl (lv_at hl 2 rfl) ?_
                refine va_iald (f := (st.2 5)) hx hb h0.1 hw.1 4 0 rfl rfl hp1 d_M_valid_107 ?_
                refine lv_aload_n hx hb d_M_valid_108 rfl (lv_at hl 1 rfl) ?_
                refine va_get (D := G.1) (ci := 3) (v := .ref (bd 6)) (C := R_M) (T := T_M) (N := 25) hx hb hts in_M hown h0.1 hw.1 0 rfl rfl 6 (by decide) (hg (.fieldLink R_M 23 "SecureEntryModel" "holder" "[I") (by decide +kernel)) (fun _ h9 => h9) rfl d_M_valid_109 ?_
                refine lv_iload_n hx hb d_M_valid_112 rfl (lv_at hl 2 rfl) ?_
                refine va_iald (f := (st.2 6)) hx hb h0.1 hw.1 5 0 rfl rfl hp1 d_M_valid_113 ?_
                refine lv_aload_n hx hb d_M_valid_114 rfl (lv_at hl 1 rfl) ?_
                refine va_get (D := G.1) (ci := 3) (v := .ref (bd 7)) (C := R_M) (T := T_M) (N := 25) hx hb hts in_M hown h0.1 hw.1 0 rfl rfl 7 (by decide) (hg (.fieldLink R_M 26 "SecureEntryModel" "value" "[I") (by decide +kernel)) (fun _ h9 => h9) rfl d_M_valid_115 ?_
                refine lv_iload_n hx hb d_M_valid_118 rfl (lv_at hl 2 rfl) ?_
                refine va_iald (f := (st.2 7)) hx hb h0.1 hw.1 6 0 rfl rfl hp1 d_M_valid_119 ?_
                refine lv_aload_n hx hb d_M_valid_120 rfl (lv_at hl 1 rfl) ?_
                refine va_get (D := G.1) (ci := 3) (v := .ref (bd 8)) (C := R_M) (T := T_M) (N := 25) hx hb hts in_M hown h0.1 hw.1 0 rfl rfl 8 (by decide) (hg (.fieldLink R_M 29 "SecureEntryModel" "from" "[I") (by decide +kernel)) (fun _ h9 => h9) rfl d_M_valid_121 ?_
                refine lv_iload_n hx hb d_M_valid_124 rfl (lv_at hl 2 rfl) ?_
                refine va_iald (f := (st.2 8)) hx hb h0.1 hw.1 7 0 rfl rfl hp1 d_M_valid_125 ?_
                refine lv_aload_n hx hb d_M_valid_126 rfl (lv_at hl 1 rfl) ?_
                refine va_get (D := G.1) (ci := 3) (v := .ref (bd 9)) (C := R_M) (T := T_M) (N := 25) hx hb hts in_M hown h0.1 hw.1 0 rfl rfl 9 (by decide) (hg (.fieldLink R_M 32 "SecureEntryModel" "to" "[I") (by decide +kernel)) (fun _ h9 => h9) rfl d_M_valid_127 ?_
                refine lv_iload_n hx hb d_M_valid_130 rfl (lv_at hl 2 rfl) ?_
                refine va_iald (f := (st.2 9)) hx hb h0.1 hw.1 8 0 rfl rfl hp1 d_M_valid_131 ?_
                refine z_Vi0 (As := [.int (p1 - p1 / 4 * 4), .int ((st.2 5) p1.toNatClampNeg), .int ((st.2 6) p1.toNatClampNeg), .int ((st.2 7) p1.toNatClampNeg), .int ((st.2 8) p1.toNatClampNeg), .int ((st.2 9) p1.toNatClampNeg)]) (v := (m_right st (p1 - p1 / 4 * 4) ((st.2 5) p1.toNatClampNeg) ((st.2 6) p1.toNatClampNeg) ((st.2 7) p1.toNatClampNeg) ((st.2 8) p1.toNatClampNeg) ((st.2 9) p1.toNatClampNeg))) ⟨hx, hb, hml, hown, hts⟩ (c_M_right l G bd st wr _ (p1 - p1 / 4 * 4) ((st.2 5) p1.toNatClampNeg) ((st.2 6) p1.toNatClampNeg) ((st.2 7) p1.toNatClampNeg) ((st.2 8) p1.toNatClampNeg) ((st.2 9) p1.toNatClampNeg) (hI.1 _ (z_cl hp1))) (cwV 6 hts gV_M_77 rfl rfl rfl (by decide +kernel) ⟨Nat.le_of_ble_eq_true rfl, Nat.le_of_ble_eq_true rfl⟩) h0 hw 0 rfl rfl rfl rfl hl.1 rfl (Nat.le_of_ble_eq_true rfl) d_M_valid_132 ⟨Nat.le_of_ble_eq_true rfl, Nat.le_of_ble_eq_true rfl⟩ (fun H locs hw => ?_)
                refine lv_icmp_ne (tgt := 142) hx hb d_M_valid_135 (by decide) (fun c_135 => ?_) (fun c_135 => ?_)
                · refine lv_iconst (v := 0) hx hb d_M_valid_142 (by decide) ?_
                  exact z_iret (wf := fun _ : Unit => (wM bd G st ++ wr)) (u := ()) hx hb hr hlocks h0 hw rfl (by rw [m_valid, if_neg c_6, if_neg c_20, if_neg c_33, if_pos c_46, if_pos c_57, if_neg c_73, if_neg c_78, if_neg c_135]) (Nat.le_of_ble_eq_true rfl) (Nat.le_of_ble_eq_true rfl) d_M_valid_143
                · refine lv_iconst (v := 1) hx hb d_M_valid_138 (by decide) ?_
                  refine lv_goto (tgt := 143) hx hb d_M_valid_139 (by decide) ?_
                  exact z_iret (wf := fun _ : Unit => (wM bd G st ++ wr)) (u := ()) hx hb hr hlocks h0 hw rfl (by rw [m_valid, if_neg c_6, if_neg c_20, if_neg c_33, if_pos c_46, if_pos c_57, if_neg c_73, if_neg c_78, if_pos c_135]) (Nat.le_of_ble_eq_true rfl) (Nat.le_of_ble_eq_true rfl) d_M_valid_143
              · refine lv_aload_n hx hb d_M_valid_81 rfl (lv_at hl 1 rfl) ?_
                refine va_get (D := G.1) (ci := 3) (v := .ref (bd 5)) (C := R_M) (T := T_M) (N := 25) hx hb hts in_M hown h0.1 hw.1 0 rfl rfl 5 (by decide) (hg (.fieldLink R_M 20 "SecureEntryModel" "issuer" "[I") (by decide +kernel)) (fun _ h9 => h9) rfl d_M_valid_82 ?_
                refine lv_iload_n hx hb d_M_valid_85 rfl (lv_at hl 2 rfl) ?_
                refine va_iald (f := (st.2 5)) hx hb h0.1 hw.1 4 0 rfl rfl hp1 d_M_valid_86 ?_
                refine lv_bipush (v := 6) hx hb d_M_valid_87 (by decide) ?_
                refine lv_icmp_eq (tgt := 94) hx hb d_M_valid_89 (by decide) (fun c_89 => ?_) (fun c_89 => ?_)
                · refine lv_aload_n hx hb d_M_valid_94 rfl (lv_at hl 1 rfl) ?_
                  refine va_get (D := G.1) (ci := 3) (v := .ref (bd 10)) (C := R_M) (T := T_M) (N := 25) hx hb hts in_M hown h0.1 hw.1 0 rfl rfl 10 (by decide) (hg (.fieldLink R_M 35 "SecureEntryModel" "sign" "[I") (by decide +kernel)) (fun _ h9 => h9) rfl d_M_valid_95 ?_
                  refine lv_iload_n hx hb d_M_valid_98 rfl (lv_at hl 2 rfl) ?_
                  refine va_iald (f := (st.2 10)) hx hb h0.1 hw.1 9 0 rfl rfl hp1 d_M_valid_99 ?_
                  refine lv_aload_n hx hb d_M_valid_100 rfl (lv_at hl 1 rfl) ?_
                  refine lv_iload_n hx hb d_M_valid_101 rfl (lv_at hl 0 rfl) ?_
                  refine lv_aload_n hx hb d_M_valid_102 rfl (lv_at hl 1 rfl) ?_
                  refine va_get (D := G.1) (ci := 3) (v := .ref (bd 5)) (C := R_M) (T := T_M) (N := 25) hx hb hts in_M hown h0.1 hw.1 0 rfl rfl 5 (by decide) (hg (.fieldLink R_M 20 "SecureEntryModel" "issuer" "[I") (by decide +kernel)) (fun _ h9 => h9) rfl d_M_valid_103 ?_
                  refine lv_iload_n hx hb d_M_valid_106 rfl (lv_at hl 2 rfl) ?_
                  refine va_iald (f := (st.2 5)) hx hb h0.1 hw.1 4 0 rfl rfl hp1 d_M_valid_107 ?_
                  refine lv_aload_n hx hb d_M_valid_108 rfl (lv_at hl 1 rfl) ?_
                  refine va_get (D := G.1) (ci := 3) (v := .ref (bd 6)) (C := R_M) (T := T_M) (N := 25) hx hb hts in_M hown h0.1 hw.1 0 rfl rfl 6 (by decide) (hg (.fieldLink R_M 23 "SecureEntryModel" "holder" "[I") (by decide +kernel)) (fun _ h9 => h9) rfl d_M_valid_109 ?_
                  refine lv_iload_n hx hb d_M_valid_112 rfl (lv_at hl 2 rfl) ?_
                  refine va_iald (f := (st.2 6)) hx hb h0.1 hw.1 5 0 rfl rfl hp1 d_M_valid_113 ?_
                  refine lv_aload_n hx hb d_M_valid_114 rfl (lv_at hl 1 rfl) ?_
                  refine va_get (D := G.1) (ci := 3) (v := .ref (bd 7)) (C := R_M) (T := T_M) (N := 25) hx hb hts in_M hown h0.1 hw.1 0 rfl rfl 7 (by decide) (hg (.fieldLink R_M 26 "SecureEntryModel" "value" "[I") (by decide +kernel)) (fun _ h9 => h9) rfl d_M_valid_115 ?_
                  refine lv_iload_n hx hb d_M_valid_118 rfl (lv_at hl 2 rfl) ?_
                  refine va_iald (f := (st.2 7)) hx hb h0.1 hw.1 6 0 rfl rfl hp1 d_M_valid_119 ?_
                  refine lv_aload_n hx hb d_M_valid_120 rfl (lv_at hl 1 rfl) ?_
                  refine va_get (D := G.1) (ci := 3) (v := .ref (bd 8)) (C := R_M) (T := T_M) (N := 25) hx hb hts in_M hown h0.1 hw.1 0 rfl rfl 8 (by decide) (hg (.fieldLink R_M 29 "SecureEntryModel" "from" "[I") (by decide +kernel)) (fun _ h9 => h9) rfl d_M_valid_121 ?_
                  refine lv_iload_n hx hb d_M_valid_124 rfl (lv_at hl 2 rfl) ?_
                  refine va_iald (f := (st.2 8)) hx hb h0.1 hw.1 7 0 rfl rfl hp1 d_M_valid_125 ?_
                  refine lv_aload_n hx hb d_M_valid_126 rfl (lv_at hl 1 rfl) ?_
                  refine va_get (D := G.1) (ci := 3) (v := .ref (bd 9)) (C := R_M) (T := T_M) (N := 25) hx hb hts in_M hown h0.1 hw.1 0 rfl rfl 9 (by decide) (hg (.fieldLink R_M 32 "SecureEntryModel" "to" "[I") (by decide +kernel)) (fun _ h9 => h9) rfl d_M_valid_127 ?_
                  refine lv_iload_n hx hb d_M_valid_130 rfl (lv_at hl 2 rfl) ?_
                  refine va_iald (f := (st.2 9)) hx hb h0.1 hw.1 8 0 rfl rfl hp1 d_M_valid_131 ?_
                  refine z_Vi0 (As := [.int (p1 - p1 / 4 * 4), .int ((st.2 5) p1.toNatClampNeg), .int ((st.2 6) p1.toNatClampNeg), .int ((st.2 7) p1.toNatClampNeg), .int ((st.2 8) p1.toNatClampNeg), .int ((st.2 9) p1.toNatClampNeg)]) (v := (m_right st (p1 - p1 / 4 * 4) ((st.2 5) p1.toNatClampNeg) ((st.2 6) p1.toNatClampNeg) ((st.2 7) p1.toNatClampNeg) ((st.2 8) p1.toNatClampNeg) ((st.2 9) p1.toNatClampNeg))) ⟨hx, hb, hml, hown, hts⟩ (c_M_right l G bd st wr _ (p1 - p1 / 4 * 4) ((st.2 5) p1.toNatClampNeg) ((st.2 6) p1.toNatClampNeg) ((st.2 7) p1.toNatClampNeg) ((st.2 8) p1.toNatClampNeg) ((st.2 9) p1.toNatClampNeg) (hI.1 _ (z_cl hp1))) (cwV 6 hts gV_M_77 rfl rfl rfl (by decide +kernel) ⟨Nat.le_of_ble_eq_true rfl, Nat.le_of_ble_eq_true rfl⟩) h0 hw 0 rfl rfl rfl rfl hl.1 rfl (Nat.le_of_ble_eq_true rfl) d_M_valid_132 ⟨Nat.le_of_ble_eq_true rfl, Nat.le_of_ble_eq_true rfl⟩ (fun H locs hw => ?_)
                  refine lv_icmp_ne (tgt := 142) hx hb d_M_valid_135 (by decide) (fun c_135 => ?_) (fun c_135 => ?_)
                  · refine lv_iconst (v := 0) hx hb d_M_valid_142 (by decide) ?_
                    exact z_iret (wf := fun _ : Unit => (wM bd G st ++ wr)) (u := ()) hx hb hr hlocks h0 hw rfl (by rw [m_valid, if_neg c_6, if_neg c_20, if_neg c_33, if_pos c_46, if_pos c_57, if_neg c_73, if_pos c_78, if_pos c_89, if_neg c_135]) (Nat.le_of_ble_eq_true rfl) (Nat.le_of_ble_eq_true rfl) d_M_valid_143
                  · refine lv_iconst (v := 1) hx hb d_M_valid_138 (by decide) ?_
                    refine lv_goto (tgt := 143) hx hb d_M_valid_139 (by decide) ?_
                    exact z_iret (wf := fun _ : Unit => (wM bd G st ++ wr)) (u := ()) hx hb hr hlocks h0 hw rfl (by rw [m_valid, if_neg c_6, if_neg c_20, if_neg c_33, if_pos c_46, if_pos c_57, if_neg c_73, if_pos c_78, if_pos c_89, if_pos c_135]) (Nat.le_of_ble_eq_true rfl) (Nat.le_of_ble_eq_true rfl) d_M_valid_143
                · refine lv_iconst (v := 0) hx hb d_M_valid_92 (by decide) ?_
                  exact z_iret (wf := fun _ : Unit => (wM bd G st ++ wr)) (u := ()) hx hb hr hlocks h0 hw rfl (by rw [m_valid, if_neg c_6, if_neg c_20, if_neg c_33, if_pos c_46, if_pos c_57, if_neg c_73, if_pos c_78, if_neg c_89]) (Nat.le_of_ble_eq_true rfl) (Nat.le_of_ble_eq_true rfl) d_M_valid_93
          · refine lv_iload_n hx hb d_M_valid_60 rfl (lv_at hl 0 rfl) ?_
            refine lv_iconst (v := 3) hx hb d_M_valid_61 (by decide) ?_
            refine lv_icmp_ne (tgt := 76) hx hb d_M_valid_62 (by decide) (fun c_62 => ?_) (fun c_62 => ?_)
            · refine lv_iload_n hx hb d_M_valid_76 rfl (lv_at hl 0 rfl) ?_
              refine lv_iconst (v := 3) hx hb d_M_valid_77 (by decide) ?_
              refine lv_icmp_ne (tgt := 94) hx hb d_M_valid_78 (by decide) (fun c_78 => ?_) (fun c_78 => ?_)
              · refine lv_aload_n hx hb d_M_valid_94 rfl (lv_at hl 1 rfl) ?_
                refine va_get (D := G.1) (ci := 3) (v := .ref (bd 10)) (C := R_M) (T := T_M) (N := 25) hx hb hts in_M hown h0.1 hw.1 0 rfl rfl 10 (by decide) (hg (.fieldLink R_M 35 "SecureEntryModel" "sign" "[I") (by decide +kernel)) (fun _ h9 => h9) rfl d_M_valid_95 ?_
                refine lv_iload_n hx hb d_M_valid_98 rfl (lv_at hl 2 rfl) ?_
                refine va_iald (f := (st.2 10)) hx hb h0.1 hw.1 9 0 rfl rfl hp1 d_M_valid_99 ?_
                refine lv_aload_n hx hb d_M_valid_100 rfl (lv_at hl 1 rfl) ?_
                refine lv_iload_n hx hb d_M_valid_101 rfl (lv_at hl 0 rfl) ?_
                refine lv_aload_n hx hb d_M_valid_102 rfl (lv_at hl 1 rfl) ?_
                refine va_get (D := G.1) (ci := 3) (v := .ref (bd 5)) (C := R_M) (T := T_M) (N := 25) hx hb hts in_M hown h0.1 hw.1 0 rfl rfl 5 (by decide) (hg (.fieldLink R_M 20 "SecureEntryModel" "issuer" "[I") (by decide +kernel)) (fun _ h9 => h9) rfl d_M_valid_103 ?_
                refine lv_iload_n hx hb d_M_valid_106 rfl (lv_at hl 2 rfl) ?_
                refine va_iald (f := (st.2 5)) hx hb h0.1 hw.1 4 0 rfl rfl hp1 d_M_valid_107 ?_
                refine lv_aload_n hx hb d_M_valid_108 rfl (lv_at hl 1 rfl) ?_
                refine va_get (D := G.1) (ci := 3) (v := .ref (bd 6)) (C := R_M) (T := T_M) (N := 25) hx hb hts in_M hown h0.1 hw.1 0 rfl rfl 6 (by decide) (hg (.fieldLink R_M 23 "SecureEntryModel" "holder" "[I") (by decide +kernel)) (fun _ h9 => h9) rfl d_M_valid_109 ?_
                refine lv_iload_n hx hb d_M_valid_112 rfl (lv_at hl 2 rfl) ?_
                refine va_iald (f := (st.2 6)) hx hb h0.1 hw.1 5 0 rfl rfl hp1 d_M_valid_113 ?_
                refine lv_aload_n hx hb d_M_valid_114 rfl (lv_at hl 1 rfl) ?_
                refine va_get (D := G.1) (ci := 3) (v := .ref (bd 7)) (C := R_M) (T := T_M) (N := 25) hx hb hts in_M hown h0.1 hw.1 0 rfl rfl 7 (by decide) (hg (.fieldLink R_M 26 "SecureEntryModel" "value" "[I") (by decide +kernel)) (fun _ h9 => h9) rfl d_M_valid_115 ?_
                refine lv_iload_n hx hb d_M_valid_118 rfl (lv_at hl 2 rfl) ?_
                refine va_iald (f := (st.2 7)) hx hb h0.1 hw.1 6 0 rfl rfl hp1 d_M_valid_119 ?_
                refine lv_aload_n hx hb d_M_valid_120 rfl (lv_at hl 1 rfl) ?_
                refine va_get (D := G.1) (ci := 3) (v := .ref (bd 8)) (C := R_M) (T := T_M) (N := 25) hx hb hts in_M hown h0.1 hw.1 0 rfl rfl 8 (by decide) (hg (.fieldLink R_M 29 "SecureEntryModel" "from" "[I") (by decide +kernel)) (fun _ h9 => h9) rfl d_M_valid_121 ?_
                refine lv_iload_n hx hb d_M_valid_124 rfl (lv_at hl 2 rfl) ?_
                refine va_iald (f := (st.2 8)) hx hb h0.1 hw.1 7 0 rfl rfl hp1 d_M_valid_125 ?_
                refine lv_aload_n hx hb d_M_valid_126 rfl (lv_at hl 1 rfl) ?_
                refine va_get (D := G.1) (ci := 3) (v := .ref (bd 9)) (C := R_M) (T := T_M) (N := 25) hx hb hts in_M hown h0.1 hw.1 0 rfl rfl 9 (by decide) (hg (.fieldLink R_M 32 "SecureEntryModel" "to" "[I") (by decide +kernel)) (fun _ h9 => h9) rfl d_M_valid_127 ?_
                refine lv_iload_n hx hb d_M_valid_130 rfl (lv_at hl 2 rfl) ?_
                refine va_iald (f := (st.2 9)) hx hb h0.1 hw.1 8 0 rfl rfl hp1 d_M_valid_131 ?_
                refine z_Vi0 (As := [.int (p1 - p1 / 4 * 4), .int ((st.2 5) p1.toNatClampNeg), .int ((st.2 6) p1.toNatClampNeg), .int ((st.2 7) p1.toNatClampNeg), .int ((st.2 8) p1.toNatClampNeg), .int ((st.2 9) p1.toNatClampNeg)]) (v := (m_right st (p1 - p1 / 4 * 4) ((st.2 5) p1.toNatClampNeg) ((st.2 6) p1.toNatClampNeg) ((st.2 7) p1.toNatClampNeg) ((st.2 8) p1.toNatClampNeg) ((st.2 9) p1.toNatClampNeg))) ⟨hx, hb, hml, hown, hts⟩ (c_M_right l G bd st wr _ (p1 - p1 / 4 * 4) ((st.2 5) p1.toNatClampNeg) ((st.2 6) p1.toNatClampNeg) ((st.2 7) p1.toNatClampNeg) ((st.2 8) p1.toNatClampNeg) ((st.2 9) p1.toNatClampNeg) (hI.1 _ (z_cl hp1))) (cwV 6 hts gV_M_77 rfl rfl rfl (by decide +kernel) ⟨Nat.le_of_ble_eq_true rfl, Nat.le_of_ble_eq_true rfl⟩) h0 hw 0 rfl rfl rfl rfl hl.1 rfl (Nat.le_of_ble_eq_true rfl) d_M_valid_132 ⟨Nat.le_of_ble_eq_true rfl, Nat.le_of_ble_eq_true rfl⟩ (fun H locs hw => ?_)
                refine lv_icmp_ne (tgt := 142) hx hb d_M_valid_135 (by decide) (fun c_135 => ?_) (fun c_135 => ?_)
                · refine lv_iconst (v := 0) hx hb d_M_valid_142 (by decide) ?_
                  exact z_iret (wf := fun _ : Unit => (wM bd G st ++ wr)) (u := ()) hx hb hr hlocks h0 hw rfl (by rw [m_valid, if_neg c_6, if_neg c_20, if_neg c_33, if_pos c_46, if_neg c_57, if_neg c_62, if_neg c_78, if_neg c_135]) (Nat.le_of_ble_eq_true rfl) (Nat.le_of_ble_eq_true rfl) d_M_valid_143
                · refine lv_iconst (v := 1) hx hb d_M_valid_138 (by decide) ?_
                  refine lv_goto (tgt := 143) hx hb d_M_valid_139 (by decide) ?_
                  exact z_iret (wf := fun _ : Unit => (wM bd G st ++ wr)) (u := ()) hx hb hr hlocks h0 hw rfl (by rw [m_valid, if_neg c_6, if_neg c_20, if_neg c_33, if_pos c_46, if_neg c_57, if_neg c_62, if_neg c_78, if_pos c_135]) (Nat.le_of_ble_eq_true rfl) (Nat.le_of_ble_eq_true rfl) d_M_valid_143
              · refine lv_aload_n hx hb d_M_valid_81 rfl (lv_at hl 1 rfl) ?_
                refine va_get (D := G.1) (ci := 3) (v := .ref (bd 5)) (C := R_M) (T := T_M) (N := 25) hx hb hts in_M hown h0.1 hw.1 0 rfl rfl 5 (by decide) (hg (.fieldLink R_M 20 "SecureEntryModel" "issuer" "[I") (by decide +kernel)) (fun _ h9 => h9) rfl d_M_valid_82 ?_
                refine lv_iload_n hx hb d_M_valid_85 rfl (lv_at hl 2 rfl) ?_
                refine va_iald (f := (st.2 5)) hx hb h0.1 hw.1 4 0 rfl rfl hp1 d_M_valid_86 ?_
                refine lv_bipush (v := 6) hx hb d_M_valid_87 (by decide) ?_
                refine lv_icmp_eq (tgt := 94) hx hb d_M_valid_89 (by decide) (fun c_89 => ?_) (fun c_89 => ?_)
                · refine lv_aload_n hx hb d_M_valid_94 rfl (lv_at hl 1 rfl) ?_
                  refine va_get (D := G.1) (ci := 3) (v := .ref (bd 10)) (C := R_M) (T := T_M) (N := 25) hx hb hts in_M hown h0.1 hw.1 0 rfl rfl 10 (by decide) (hg (.fieldLink R_M 35 "SecureEntryModel" "sign" "[I") (by decide +kernel)) (fun _ h9 => h9) rfl d_M_valid_95 ?_
                  refine lv_iload_n hx hb d_M_valid_98 rfl (lv_at hl 2 rfl) ?_
                  refine va_iald (f := (st.2 10)) hx hb h0.1 hw.1 9 0 rfl rfl hp1 d_M_valid_99 ?_
                  refine lv_aload_n hx hb d_M_valid_100 rfl (lv_at hl 1 rfl) ?_
                  refine lv_iload_n hx hb d_M_valid_101 rfl (lv_at hl 0 rfl) ?_
                  refine lv_aload_n hx hb d_M_valid_102 rfl (lv_at hl 1 rfl) ?_
                  refine va_get (D := G.1) (ci := 3) (v := .ref (bd 5)) (C := R_M) (T := T_M) (N := 25) hx hb hts in_M hown h0.1 hw.1 0 rfl rfl 5 (by decide) (hg (.fieldLink R_M 20 "SecureEntryModel" "issuer" "[I") (by decide +kernel)) (fun _ h9 => h9) rfl d_M_valid_103 ?_
                  refine lv_iload_n hx hb d_M_valid_106 rfl (lv_at hl 2 rfl) ?_
                  refine va_iald (f := (st.2 5)) hx hb h0.1 hw.1 4 0 rfl rfl hp1 d_M_valid_107 ?_
                  refine lv_aload_n hx hb d_M_valid_108 rfl (lv_at hl 1 rfl) ?_
                  refine va_get (D := G.1) (ci := 3) (v := .ref (bd 6)) (C := R_M) (T := T_M) (N := 25) hx hb hts in_M hown h0.1 hw.1 0 rfl rfl 6 (by decide) (hg (.fieldLink R_M 23 "SecureEntryModel" "holder" "[I") (by decide +kernel)) (fun _ h9 => h9) rfl d_M_valid_109 ?_
                  refine lv_iload_n hx hb d_M_valid_112 rfl (lv_at hl 2 rfl) ?_
                  refine va_iald (f := (st.2 6)) hx hb h0.1 hw.1 5 0 rfl rfl hp1 d_M_valid_113 ?_
                  refine lv_aload_n hx hb d_M_valid_114 rfl (lv_at hl 1 rfl) ?_
                  refine va_get (D := G.1) (ci := 3) (v := .ref (bd 7)) (C := R_M) (T := T_M) (N := 25) hx hb hts in_M hown h0.1 hw.1 0 rfl rfl 7 (by decide) (hg (.fieldLink R_M 26 "SecureEntryModel" "value" "[I") (by decide +kernel)) (fun _ h9 => h9) rfl d_M_valid_115 ?_
                  refine lv_iload_n hx hb d_M_valid_118 rfl (lv_at hl 2 rfl) ?_
                  refine va_iald (f := (st.2 7)) hx hb h0.1 hw.1 6 0 rfl rfl hp1 d_M_valid_119 ?_
                  refine lv_aload_n hx hb d_M_valid_120 rfl (lv_at hl 1 rfl) ?_
                  refine va_get (D := G.1) (ci := 3) (v := .ref (bd 8)) (C := R_M) (T := T_M) (N := 25) hx hb hts in_M hown h0.1 hw.1 0 rfl rfl 8 (by decide) (hg (.fieldLink R_M 29 "SecureEntryModel" "from" "[I") (by decide +kernel)) (fun _ h9 => h9) rfl d_M_valid_121 ?_
                  refine lv_iload_n hx hb d_M_valid_124 rfl (lv_at hl 2 rfl) ?_
                  refine va_iald (f := (st.2 8)) hx hb h0.1 hw.1 7 0 rfl rfl hp1 d_M_valid_125 ?_
                  refine lv_aload_n hx hb d_M_valid_126 rfl (lv_at hl 1 rfl) ?_
                  refine va_get (D := G.1) (ci := 3) (v := .ref (bd 9)) (C := R_M) (T := T_M) (N := 25) hx hb hts in_M hown h0.1 hw.1 0 rfl rfl 9 (by decide) (hg (.fieldLink R_M 32 "SecureEntryModel" "to" "[I") (by decide +kernel)) (fun _ h9 => h9) rfl d_M_valid_127 ?_
                  refine lv_iload_n hx hb d_M_valid_130 rfl (lv_at hl 2 rfl) ?_
                  refine va_iald (f := (st.2 9)) hx hb h0.1 hw.1 8 0 rfl rfl hp1 d_M_valid_131 ?_
                  refine z_Vi0 (As := [.int (p1 - p1 / 4 * 4), .int ((st.2 5) p1.toNatClampNeg), .int ((st.2 6) p1.toNatClampNeg), .int ((st.2 7) p1.toNatClampNeg), .int ((st.2 8) p1.toNatClampNeg), .int ((st.2 9) p1.toNatClampNeg)]) (v := (m_right st (p1 - p1 / 4 * 4) ((st.2 5) p1.toNatClampNeg) ((st.2 6) p1.toNatClampNeg) ((st.2 7) p1.toNatClampNeg) ((st.2 8) p1.toNatClampNeg) ((st.2 9) p1.toNatClampNeg))) ⟨hx, hb, hml, hown, hts⟩ (c_M_right l G bd st wr _ (p1 - p1 / 4 * 4) ((st.2 5) p1.toNatClampNeg) ((st.2 6) p1.toNatClampNeg) ((st.2 7) p1.toNatClampNeg) ((st.2 8) p1.toNatClampNeg) ((st.2 9) p1.toNatClampNeg) (hI.1 _ (z_cl hp1))) (cwV 6 hts gV_M_77 rfl rfl rfl (by decide +kernel) ⟨Nat.le_of_ble_eq_true rfl, Nat.le_of_ble_eq_true rfl⟩) h0 hw 0 rfl rfl rfl rfl hl.1 rfl (Nat.le_of_ble_eq_true rfl) d_M_valid_132 ⟨Nat.le_of_ble_eq_true rfl, Nat.le_of_ble_eq_true rfl⟩ (fun H locs hw => ?_)
                  refine lv_icmp_ne (tgt := 142) hx hb d_M_valid_135 (by decide) (fun c_135 => ?_) (fun c_135 => ?_)
                  · refine lv_iconst (v := 0) hx hb d_M_valid_142 (by decide) ?_
                    exact z_iret (wf := fun _ : Unit => (wM bd G st ++ wr)) (u := ()) hx hb hr hlocks h0 hw rfl (by rw [m_valid, if_neg c_6, if_neg c_20, if_neg c_33, if_pos c_46, if_neg c_57, if_neg c_62, if_pos c_78, if_pos c_89, if_neg c_135]) (Nat.le_of_ble_eq_true rfl) (Nat.le_of_ble_eq_true rfl) d_M_valid_143
                  · refine lv_iconst (v := 1) hx hb d_M_valid_138 (by decide) ?_
                    refine lv_goto (tgt := 143) hx hb d_M_valid_139 (by decide) ?_
                    exact z_iret (wf := fun _ : Unit => (wM bd G st ++ wr)) (u := ()) hx hb hr hlocks h0 hw rfl (by rw [m_valid, if_neg c_6, if_neg c_20, if_neg c_33, if_pos c_46, if_neg c_57, if_neg c_62, if_pos c_78, if_pos c_89, if_pos c_135]) (Nat.le_of_ble_eq_true rfl) (Nat.le_of_ble_eq_true rfl) d_M_valid_143
                · refine lv_iconst (v := 0) hx hb d_M_valid_92 (by decide) ?_
                  exact z_iret (wf := fun _ : Unit => (wM bd G st ++ wr)) (u := ()) hx hb hr hlocks h0 hw rfl (by rw [m_valid, if_neg c_6, if_neg c_20, if_neg c_33, if_pos c_46, if_neg c_57, if_neg c_62, if_pos c_78, if_neg c_89]) (Nat.le_of_ble_eq_true rfl) (Nat.le_of_ble_eq_true rfl) d_M_valid_93
            · refine lv_aload_n hx hb d_M_valid_65 rfl (lv_at hl 1 rfl) ?_
              refine va_get (D := G.1) (ci := 3) (v := .ref (bd 7)) (C := R_M) (T := T_M) (N := 25) hx hb hts in_M hown h0.1 hw.1 0 rfl rfl 7 (by decide) (hg (.fieldLink R_M 26 "SecureEntryModel" "value" "[I") (by decide +kernel)) (fun _ h9 => h9) rfl d_M_valid_66 ?_
              refine lv_iload_n hx hb d_M_valid_69 rfl (lv_at hl 2 rfl) ?_
              refine va_iald (f := (st.2 7)) hx hb h0.1 hw.1 6 0 rfl rfl hp1 d_M_valid_70 ?_
              refine lv_bipush (v := 15) hx hb d_M_valid_71 (by decide) ?_
              refine lv_icmp_gt (tgt := 92) hx hb d_M_valid_73 (by decide) (fun c_73 => ?_) (fun c_73 => ?_)
              · refine lv_iconst (v := 0) hx hb d_M_valid_92 (by decide) ?_
                exact z_iret (wf := fun _ : Unit => (wM bd G st ++ wr)) (u := ()) hx hb hr hlocks h0 hw rfl (by rw [m_valid, if_neg c_6, if_neg c_20, if_neg c_33, if_pos c_46, if_neg c_57, if_pos c_62, if_pos c_73]) (Nat.le_of_ble_eq_true rfl) (Nat.le_of_ble_eq_true rfl) d_M_valid_93
              · refine lv_iload_n hx hb d_M_valid_76 rfl (lv_at hl 0 rfl) ?_
                refine lv_iconst (v := 3) hx hb d_M_valid_77 (by decide) ?_
                refine lv_icmp_ne (tgt := 94) hx hb d_M_valid_78 (by decide) (fun c_78 => ?_) (fun c_78 => ?_)
                · refine lv_aload_n hx hb d_M_valid_94 rfl (lv_at hl 1 rfl) ?_
                  refine va_get (D := G.1) (ci := 3) (v := .ref (bd 10)) (C := R_M) (T := T_M) (N := 25) hx hb hts in_M hown h0.1 hw.1 0 rfl rfl 10 (by decide) (hg (.fieldLink R_M 35 "SecureEntryModel" "sign" "[I") (by decide +kernel)) (fun _ h9 => h9) rfl d_M_valid_95 ?_
                  refine lv_iload_n hx hb d_M_valid_98 rfl (lv_at hl 2 rfl) ?_
                  refine va_iald (f := (st.2 10)) hx hb h0.1 hw.1 9 0 rfl rfl hp1 d_M_valid_99 ?_
                  refine lv_aload_n hx hb d_M_valid_100 rfl (lv_at hl 1 rfl) ?_
                  refine lv_iload_n hx hb d_M_valid_101 rfl (lv_at hl 0 rfl) ?_
                  refine lv_aload_n hx hb d_M_valid_102 rfl (lv_at hl 1 rfl) ?_
                  refine va_get (D := G.1) (ci := 3) (v := .ref (bd 5)) (C := R_M) (T := T_M) (N := 25) hx hb hts in_M hown h0.1 hw.1 0 rfl rfl 5 (by decide) (hg (.fieldLink R_M 20 "SecureEntryModel" "issuer" "[I") (by decide +kernel)) (fun _ h9 => h9) rfl d_M_valid_103 ?_
                  refine lv_iload_n hx hb d_M_valid_106 rfl (lv_at hl 2 rfl) ?_
                  refine va_iald (f := (st.2 5)) hx hb h0.1 hw.1 4 0 rfl rfl hp1 d_M_valid_107 ?_
                  refine lv_aload_n hx hb d_M_valid_108 rfl (lv_at hl 1 rfl) ?_
                  refine va_get (D := G.1) (ci := 3) (v := .ref (bd 6)) (C := R_M) (T := T_M) (N := 25) hx hb hts in_M hown h0.1 hw.1 0 rfl rfl 6 (by decide) (hg (.fieldLink R_M 23 "SecureEntryModel" "holder" "[I") (by decide +kernel)) (fun _ h9 => h9) rfl d_M_valid_109 ?_
                  refine lv_iload_n hx hb d_M_valid_112 rfl (lv_at hl 2 rfl) ?_
                  refine va_iald (f := (st.2 6)) hx hb h0.1 hw.1 5 0 rfl rfl hp1 d_M_valid_113 ?_
                  refine lv_aload_n hx hb d_M_valid_114 rfl (lv_at hl 1 rfl) ?_
                  refine va_get (D := G.1) (ci := 3) (v := .ref (bd 7)) (C := R_M) (T := T_M) (N := 25) hx hb hts in_M hown h0.1 hw.1 0 rfl rfl 7 (by decide) (hg (.fieldLink R_M 26 "SecureEntryModel" "value" "[I") (by decide +kernel)) (fun _ h9 => h9) rfl d_M_valid_115 ?_
                  refine lv_iload_n hx hb d_M_valid_118 rfl (lv_at hl 2 rfl) ?_
                  refine va_iald (f := (st.2 7)) hx hb h0.1 hw.1 6 0 rfl rfl hp1 d_M_valid_119 ?_
                  refine lv_aload_n hx hb d_M_valid_120 rfl (lv_at hl 1 rfl) ?_
                  refine va_get (D := G.1) (ci := 3) (v := .ref (bd 8)) (C := R_M) (T := T_M) (N := 25) hx hb hts in_M hown h0.1 hw.1 0 rfl rfl 8 (by decide) (hg (.fieldLink R_M 29 "SecureEntryModel" "from" "[I") (by decide +kernel)) (fun _ h9 => h9) rfl d_M_valid_121 ?_
                  refine lv_iload_n hx hb d_M_valid_124 rfl (lv_at hl 2 rfl) ?_
                  refine va_iald (f := (st.2 8)) hx hb h0.1 hw.1 7 0 rfl rfl hp1 d_M_valid_125 ?_
                  refine lv_aload_n hx hb d_M_valid_126 rfl (lv_at hl 1 rfl) ?_
                  refine va_get (D := G.1) (ci := 3) (v := .ref (bd 9)) (C := R_M) (T := T_M) (N := 25) hx hb hts in_M hown h0.1 hw.1 0 rfl rfl 9 (by decide) (hg (.fieldLink R_M 32 "SecureEntryModel" "to" "[I") (by decide +kernel)) (fun _ h9 => h9) rfl d_M_valid_127 ?_
                  refine lv_iload_n hx hb d_M_valid_130 rfl (lv_at hl 2 rfl) ?_
                  refine va_iald (f := (st.2 9)) hx hb h0.1 hw.1 8 0 rfl rfl hp1 d_M_valid_131 ?_
                  refine z_Vi0 (As := [.int (p1 - p1 / 4 * 4), .int ((st.2 5) p1.toNatClampNeg), .int ((st.2 6) p1.toNatClampNeg), .int ((st.2 7) p1.toNatClampNeg), .int ((st.2 8) p1.toNatClampNeg), .int ((st.2 9) p1.toNatClampNeg)]) (v := (m_right st (p1 - p1 / 4 * 4) ((st.2 5) p1.toNatClampNeg) ((st.2 6) p1.toNatClampNeg) ((st.2 7) p1.toNatClampNeg) ((st.2 8) p1.toNatClampNeg) ((st.2 9) p1.toNatClampNeg))) ⟨hx, hb, hml, hown, hts⟩ (c_M_right l G bd st wr _ (p1 - p1 / 4 * 4) ((st.2 5) p1.toNatClampNeg) ((st.2 6) p1.toNatClampNeg) ((st.2 7) p1.toNatClampNeg) ((st.2 8) p1.toNatClampNeg) ((st.2 9) p1.toNatClampNeg) (hI.1 _ (z_cl hp1))) (cwV 6 hts gV_M_77 rfl rfl rfl (by decide +kernel) ⟨Nat.le_of_ble_eq_true rfl, Nat.le_of_ble_eq_true rfl⟩) h0 hw 0 rfl rfl rfl rfl hl.1 rfl (Nat.le_of_ble_eq_true rfl) d_M_valid_132 ⟨Nat.le_of_ble_eq_true rfl, Nat.le_of_ble_eq_true rfl⟩ (fun H locs hw => ?_)
                  refine lv_icmp_ne (tgt := 142) hx hb d_M_valid_135 (by decide) (fun c_135 => ?_) (fun c_135 => ?_)
                  · refine lv_iconst (v := 0) hx hb d_M_valid_142 (by decide) ?_
                    exact z_iret (wf := fun _ : Unit => (wM bd G st ++ wr)) (u := ()) hx hb hr hlocks h0 hw rfl (by rw [m_valid, if_neg c_6, if_neg c_20, if_neg c_33, if_pos c_46, if_neg c_57, if_pos c_62, if_neg c_73, if_neg c_78, if_neg c_135]) (Nat.le_of_ble_eq_true rfl) (Nat.le_of_ble_eq_true rfl) d_M_valid_143
                  · refine lv_iconst (v := 1) hx hb d_M_valid_138 (by decide) ?_
                    refine lv_goto (tgt := 143) hx hb d_M_valid_139 (by decide) ?_
                    exact z_iret (wf := fun _ : Unit => (wM bd G st ++ wr)) (u := ()) hx hb hr hlocks h0 hw rfl (by rw [m_valid, if_neg c_6, if_neg c_20, if_neg c_33, if_pos c_46, if_neg c_57, if_pos c_62, if_neg c_73, if_neg c_78, if_pos c_135]) (Nat.le_of_ble_eq_true rfl) (Nat.le_of_ble_eq_true rfl) d_M_valid_143
                · refine lv_aload_n hx hb d_M_valid_81 rfl (lv_at hl 1 rfl) ?_
                  refine va_get (D := G.1) (ci := 3) (v := .ref (bd 5)) (C := R_M) (T := T_M) (N := 25) hx hb hts in_M hown h0.1 hw.1 0 rfl rfl 5 (by decide) (hg (.fieldLink R_M 20 "SecureEntryModel" "issuer" "[I") (by decide +kernel)) (fun _ h9 => h9) rfl d_M_valid_82 ?_
                  refine lv_iload_n hx hb d_M_valid_85 rfl (lv_at hl 2 rfl) ?_
                  refine va_iald (f := (st.2 5)) hx hb h0.1 hw.1 4 0 rfl rfl hp1 d_M_valid_86 ?_
                  refine lv_bipush (v := 6) hx hb d_M_valid_87 (by decide) ?_
                  refine lv_icmp_eq (tgt := 94) hx hb d_M_valid_89 (by decide) (fun c_89 => ?_) (fun c_89 => ?_)
                  · refine lv_aload_n hx hb d_M_valid_94 rfl (lv_at hl 1 rfl) ?_
                    refine va_get (D := G.1) (ci := 3) (v := .ref (bd 10)) (C := R_M) (T := T_M) (N := 25) hx hb hts in_M hown h0.1 hw.1 0 rfl rfl 10 (by decide) (hg (.fieldLink R_M 35 "SecureEntryModel" "sign" "[I") (by decide +kernel)) (fun _ h9 => h9) rfl d_M_valid_95 ?_
                    refine lv_iload_n hx hb d_M_valid_98 rfl (lv_at hl 2 rfl) ?_
                    refine va_iald (f := (st.2 10)) hx hb h0.1 hw.1 9 0 rfl rfl hp1 d_M_valid_99 ?_
                    refine lv_aload_n hx hb d_M_valid_100 rfl (lv_at hl 1 rfl) ?_
                    refine lv_iload_n hx hb d_M_valid_101 rfl (lv_at hl 0 rfl) ?_
                    refine lv_aload_n hx hb d_M_valid_102 rfl (lv_at hl 1 rfl) ?_
                    refine va_get (D := G.1) (ci := 3) (v := .ref (bd 5)) (C := R_M) (T := T_M) (N := 25) hx hb hts in_M hown h0.1 hw.1 0 rfl rfl 5 (by decide) (hg (.fieldLink R_M 20 "SecureEntryModel" "issuer" "[I") (by decide +kernel)) (fun _ h9 => h9) rfl d_M_valid_103 ?_
                    refine lv_iload_n hx hb d_M_valid_106 rfl (lv_at hl 2 rfl) ?_
                    refine va_iald (f := (st.2 5)) hx hb h0.1 hw.1 4 0 rfl rfl hp1 d_M_valid_107 ?_
                    refine lv_aload_n hx hb d_M_valid_108 rfl (lv_at hl 1 rfl) ?_
                    refine va_get (D := G.1) (ci := 3) (v := .ref (bd 6)) (C := R_M) (T := T_M) (N := 25) hx hb hts in_M hown h0.1 hw.1 0 rfl rfl 6 (by decide) (hg (.fieldLink R_M 23 "SecureEntryModel" "holder" "[I") (by decide +kernel)) (fun _ h9 => h9) rfl d_M_valid_109 ?_
                    refine lv_iload_n hx hb d_M_valid_112 rfl (lv_at hl 2 rfl) ?_
                    refine va_iald (f := (st.2 6)) hx hb h0.1 hw.1 5 0 rfl rfl hp1 d_M_valid_113 ?_
                    refine lv_aload_n hx hb d_M_valid_114 rfl (lv_at hl 1 rfl) ?_
                    refine va_get (D := G.1) (ci := 3) (v := .ref (bd 7)) (C := R_M) (T := T_M) (N := 25) hx hb hts in_M hown h0.1 hw.1 0 rfl rfl 7 (by decide) (hg (.fieldLink R_M 26 "SecureEntryModel" "value" "[I") (by decide +kernel)) (fun _ h9 => h9) rfl d_M_valid_115 ?_
                    refine lv_iload_n hx hb d_M_valid_118 rfl (lv_at hl 2 rfl) ?_
                    refine va_iald (f := (st.2 7)) hx hb h0.1 hw.1 6 0 rfl rfl hp1 d_M_valid_119 ?_
                    refine lv_aload_n hx hb d_M_valid_120 rfl (lv_at hl 1 rfl) ?_
                    refine va_get (D := G.1) (ci := 3) (v := .ref (bd 8)) (C := R_M) (T := T_M) (N := 25) hx hb hts in_M hown h0.1 hw.1 0 rfl rfl 8 (by decide) (hg (.fieldLink R_M 29 "SecureEntryModel" "from" "[I") (by decide +kernel)) (fun _ h9 => h9) rfl d_M_valid_121 ?_
                    refine lv_iload_n hx hb d_M_valid_124 rfl (lv_at hl 2 rfl) ?_
                    refine va_iald (f := (st.2 8)) hx hb h0.1 hw.1 7 0 rfl rfl hp1 d_M_valid_125 ?_
                    refine lv_aload_n hx hb d_M_valid_126 rfl (lv_at hl 1 rfl) ?_
                    refine va_get (D := G.1) (ci := 3) (v := .ref (bd 9)) (C := R_M) (T := T_M) (N := 25) hx hb hts in_M hown h0.1 hw.1 0 rfl rfl 9 (by decide) (hg (.fieldLink R_M 32 "SecureEntryModel" "to" "[I") (by decide +kernel)) (fun _ h9 => h9) rfl d_M_valid_127 ?_
                    refine lv_iload_n hx hb d_M_valid_130 rfl (lv_at hl 2 rfl) ?_
                    refine va_iald (f := (st.2 9)) hx hb h0.1 hw.1 8 0 rfl rfl hp1 d_M_valid_131 ?_
                    refine z_Vi0 (As := [.int (p1 - p1 / 4 * 4), .int ((st.2 5) p1.toNatClampNeg), .int ((st.2 6) p1.toNatClampNeg), .int ((st.2 7) p1.toNatClampNeg), .int ((st.2 8) p1.toNatClampNeg), .int ((st.2 9) p1.toNatClampNeg)]) (v := (m_right st (p1 - p1 / 4 * 4) ((st.2 5) p1.toNatClampNeg) ((st.2 6) p1.toNatClampNeg) ((st.2 7) p1.toNatClampNeg) ((st.2 8) p1.toNatClampNeg) ((st.2 9) p1.toNatClampNeg))) ⟨hx, hb, hml, hown, hts⟩ (c_M_right l G bd st wr _ (p1 - p1 / 4 * 4) ((st.2 5) p1.toNatClampNeg) ((st.2 6) p1.toNatClampNeg) ((st.2 7) p1.toNatClampNeg) ((st.2 8) p1.toNatClampNeg) ((st.2 9) p1.toNatClampNeg) (hI.1 _ (z_cl hp1))) (cwV 6 hts gV_M_77 rfl rfl rfl (by decide +kernel) ⟨Nat.le_of_ble_eq_true rfl, Nat.le_of_ble_eq_true rfl⟩) h0 hw 0 rfl rfl rfl rfl hl.1 rfl (Nat.le_of_ble_eq_true rfl) d_M_valid_132 ⟨Nat.le_of_ble_eq_true rfl, Nat.le_of_ble_eq_true rfl⟩ (fun H locs hw => ?_)
                    refine lv_icmp_ne (tgt := 142) hx hb d_M_valid_135 (by decide) (fun c_135 => ?_) (fun c_135 => ?_)
                    · refine lv_iconst (v := 0) hx hb d_M_valid_142 (by decide) ?_
                      exact z_iret (wf := fun _ : Unit => (wM bd G st ++ wr)) (u := ()) hx hb hr hlocks h0 hw rfl (by rw [m_valid, if_neg c_6, if_neg c_20, if_neg c_33, if_pos c_46, if_neg c_57, if_pos c_62, if_neg c_73, if_pos c_78, if_pos c_89, if_neg c_135]) (Nat.le_of_ble_eq_true rfl) (Nat.le_of_ble_eq_true rfl) d_M_valid_143
                    · refine lv_iconst (v := 1) hx hb d_M_valid_138 (by decide) ?_
                      refine lv_goto (tgt := 143) hx hb d_M_valid_139 (by decide) ?_
                      exact z_iret (wf := fun _ : Unit => (wM bd G st ++ wr)) (u := ()) hx hb hr hlocks h0 hw rfl (by rw [m_valid, if_neg c_6, if_neg c_20, if_neg c_33, if_pos c_46, if_neg c_57, if_pos c_62, if_neg c_73, if_pos c_78, if_pos c_89, if_pos c_135]) (Nat.le_of_ble_eq_true rfl) (Nat.le_of_ble_eq_true rfl) d_M_valid_143
                  · refine lv_iconst (v := 0) hx hb d_M_valid_92 (by decide) ?_
                    exact z_iret (wf := fun _ : Unit => (wM bd G st ++ wr)) (u := ()) hx hb hr hlocks h0 hw rfl (by rw [m_valid, if_neg c_6, if_neg c_20, if_neg c_33, if_pos c_46, if_neg c_57, if_pos c_62, if_neg c_73, if_pos c_78, if_neg c_89]) (Nat.le_of_ble_eq_true rfl) (Nat.le_of_ble_eq_true rfl) d_M_valid_93
        · refine lv_iconst (v := 0) hx hb d_M_valid_49 (by decide) ?_
          exact z_iret (wf := fun _ : Unit => (wM bd G st ++ wr)) (u := ()) hx hb hr hlocks h0 hw rfl (by rw [m_valid, if_neg c_6, if_neg c_20, if_neg c_33, if_neg c_46]) (Nat.le_of_ble_eq_true rfl) (Nat.le_of_ble_eq_true rfl) d_M_valid_50
set_option maxHeartbeats 4000000 in
set_option maxRecDepth 100000 in
theorem c_M_good (l : Launch) (G : gG) (bd : Nat → Nat) (st : MS) (wr : va_W) (sz : Nat) (p1 : Int32) (hI : InvM st) (hp1 : vp_in p1 6) : Met l y_M_good w_M_good { frames := 2, cells := 0, slots := 0, locals := 50 } (va_Pc [.ref (bd 0), .int p1] (z_pre G (wM bd G st ++ wr) sz)) (z_Qi0 G (wM bd G st ++ wr) sz (wM bd G st ++ wr) (m_good st p1)) 0 0 (va_A (wM bd G st ++ wr) sz) := by
  refine Met.ofW (cc := b_M_good) (maxL := 2) (ret := (some .boolean)) (by decide) rfl ?_
  intro p e s m args below meth c s₁ B hml hv
  obtain ⟨rfl, hsz, hP, hK, hD0, ham⟩ := hv
  subst hsz
  have hx := B.exec
  have hb := B.bytes
  have hr := B.returns
  have hts : ∀ w ∈ goT, w.before _ s = true := fun w h => atoms_spec (ws := w_M_good) B.pre w (List.mem_cons_of_mem _ h)
  have hg : ∀ w, goB w = true → w.before _ s = true := fun w h => hts w (goI h)
  have hown : s.vm.findClass R_M = some m.cls := findClass_of_methodNamed B.named
  have hlocks := B.notSynchronized
  have h0 : z_st G (wM bd G st ++ wr) s := ⟨hK, ham⟩
  have hw : z_wl G (wM bd G st ++ wr) s (wM bd G st ++ wr) s.heap [] := z_0 hP hD0
  have hl := lv_entry ([.ref (bd 0), .int p1]) (n := 2) (Nat.le_of_ble_eq_true rfl)
  rw [lg_entry_eq]
  generalize (lg_sl ([.ref (bd 0), .int p1]) ++ List.replicate (2 - (lg_sl ([.ref (bd 0), .int p1])).length) Slot.unset).toArray = ls at hl ⊢
  have hl : lv_has ls 2 [(0, .ref (bd 0)), (1, .int p1)] := hl
  refine lv_aload_n hx hb d_M_good_0 rfl (lv_at hl 0 rfl) ?_
  refine lv_iconst (v := 4) hx hb d_M_good_1 (by decide) ?_
  refine lv_iload_n hx hb d_M_good_2 rfl (lv_at hl 1 rfl) ?_
  refine lv_imul hx hb d_M_good_3 ?_
  refine z_Vi0 (As := [.int (4 * p1)]) (v := (m_valid st (4 * p1))) ⟨hx, hb, hml, hown, hts⟩ (c_M_valid l G bd st wr _ (4 * p1) hI (z_m0 hp1)) (cwV 1 hts gV_M_96 rfl rfl rfl (by decide +kernel) ⟨Nat.le_of_ble_eq_true rfl, Nat.le_of_ble_eq_true rfl⟩) h0 hw 0 rfl rfl rfl rfl hl.1 rfl (Nat.le_of_ble_eq_true rfl) d_M_good_4 ⟨Nat.le_of_ble_eq_true rfl, Nat.le_of_ble_eq_true rfl⟩ (fun H locs hw => ?_)
  refine lv_if_eq (tgt := 80) hx hb d_M_good_7 (by decide) (fun c_7 => ?_) (fun c_7 => ?_)
  · refine lv_iconst (v := 0) hx hb d_M_good_80 (by decide) ?_
    exact z_iret (wf := fun _ : Unit => (wM bd G st ++ wr)) (u := ()) hx hb hr hlocks h0 hw rfl (by rw [m_good, if_pos c_7]) (Nat.le_of_ble_eq_true rfl) (Nat.le_of_ble_eq_true rfl) d_M_good_81
  · refine lv_aload_n hx hb d_M_good_10 rfl (lv_at hl 0 rfl) ?_
    refine lv_iconst (v := 4) hx hb d_M_good_11 (by decide) ?_
    refine lv_iload_n hx hb d_M_good_12 rfl (lv_at hl 1 rfl) ?_
    refine lv_imul hx hb d_M_good_13 ?_
    refine lv_iconst (v := 1) hx hb d_M_good_14 (by decide) ?_
    refine lv_iadd hx hb d_M_good_15 ?_
    refine z_Vi0 (As := [.int ((4 * p1) + 1)]) (v := (m_valid st ((4 * p1) + 1))) ⟨hx, hb, hml, hown, hts⟩ (c_M_valid l G bd st wr _ ((4 * p1) + 1) hI (z_m1 hp1)) (cwV 1 hts gV_M_96 rfl rfl rfl (by decide +kernel) ⟨Nat.le_of_ble_eq_true rfl, Nat.le_of_ble_eq_true rfl⟩) h0 hw 0 rfl rfl rfl rfl hl.1 rfl (Nat.le_of_ble_eq_true rfl) d_M_good_16 ⟨Nat.le_of_ble_eq_true rfl, Nat.le_of_ble_eq_true rfl⟩ (fun H locs hw => ?_)
    refine lv_if_eq (tgt := 80) hx hb d_M_good_19 (by decide) (fun c_19 => ?_) (fun c_19 => ?_)
    · refine lv_iconst (v := 0) hx hb d_M_good_80 (by decide) ?_
      exact z_iret (wf := fun _ : Unit => (wM bd G st ++ wr)) (u := ()) hx hb hr hlocks h0 hw rfl (by rw [m_good, if_neg c_7, if_pos c_19]) (Nat.le_of_ble_eq_true rfl) (Nat.le_of_ble_eq_true rfl) d_M_good_81
    · refine lv_aload_n hx hb d_M_good_22 rfl (lv_at hl 0 rfl) ?_
      refine lv_iconst (v := 4) hx hb d_M_good_23 (by decide) ?_
      refine lv_iload_n hx hb d_M_good_24 rfl (lv_at hl 1 rfl) ?_
      refine lv_imul hx hb d_M_good_25 ?_
      refine lv_iconst (v := 2) hx hb d_M_good_26 (by decide) ?_
      refine lv_iadd hx hb d_M_good_27 ?_
      refine z_Vi0 (As := [.int ((4 * p1) + 2)]) (v := (m_valid st ((4 * p1) + 2))) ⟨hx, hb, hml, hown, hts⟩ (c_M_valid l G bd st wr _ ((4 * p1) + 2) hI (z_m2 hp1)) (cwV 1 hts gV_M_96 rfl rfl rfl (by decide +kernel) ⟨Nat.le_of_ble_eq_true rfl, Nat.le_of_ble_eq_true rfl⟩) h0 hw 0 rfl rfl rfl rfl hl.1 rfl (Nat.le_of_ble_eq_true rfl) d_M_good_28 ⟨Nat.le_of_ble_eq_true rfl, Nat.le_of_ble_eq_true rfl⟩ (fun H locs hw => ?_)
      refine lv_if_eq (tgt := 80) hx hb d_M_good_31 (by decide) (fun c_31 => ?_) (fun c_31 => ?_)
      · refine lv_iconst (v := 0) hx hb d_M_good_80 (by decide) ?_
        exact z_iret (wf := fun _ : Unit => (wM bd G st ++ wr)) (u := ()) hx hb hr hlocks h0 hw rfl (by rw [m_good, if_neg c_7, if_neg c_19, if_pos c_31]) (Nat.le_of_ble_eq_true rfl) (Nat.le_of_ble_eq_true rfl) d_M_good_81
      · refine lv_aload_n hx hb d_M_good_34 rfl (lv_at hl 0 rfl) ?_
        refine va_get (D := G.1) (ci := 3) (v := .ref (bd 6)) (C := R_M) (T := T_M) (N := 25) hx hb hts in_M hown h0.1 hw.1 0 rfl rfl 6 (by decide) (hg (.fieldLink R_M 23 "SecureEntryModel" "holder" "[I") (by decide +kernel)) (fun _ h9 => h9) rfl d_M_good_35 ?_
        refine lv_iconst (v := 4) hx hb d_M_good_38 (by decide) ?_
        refine lv_iload_n hx hb d_M_good_39 rfl (lv_at hl 1 rfl) ?_
        refine lv_imul hx hb d_M_good_40 ?_
        refine va_iald (f := (st.2 6)) hx hb h0.1 hw.1 5 0 rfl rfl (z_m0 hp1) d_M_good_41 ?_
        refine lv_aload_n hx hb d_M_good_42 rfl (lv_at hl 0 rfl) ?_
        refine va_get (D := G.1) (ci := 3) (v := .ref (bd 6)) (C := R_M) (T := T_M) (N := 25) hx hb hts in_M hown h0.1 hw.1 0 rfl rfl 6 (by decide) (hg (.fieldLink R_M 23 "SecureEntryModel" "holder" "[I") (by decide +kernel)) (fun _ h9 => h9) rfl d_M_good_43 ?_
        refine lv_iconst (v := 4) hx hb d_M_good_46 (by decide) ?_
        refine lv_iload_n hx hb d_M_good_47 rfl (lv_at hl 1 rfl) ?_
        refine lv_imul hx hb d_M_good_48 ?_
        refine lv_iconst (v := 1) hx hb d_M_good_49 (by decide) ?_
        refine lv_iadd hx hb d_M_good_50 ?_
        refine va_iald (f := (st.2 6)) hx hb h0.1 hw.1 5 0 rfl rfl (z_m1 hp1) d_M_good_51 ?_
        refine lv_icmp_ne (tgt := 80) hx hb d_M_good_52 (by decide) (fun c_52 => ?_) (fun c_52 => ?_)
        · refine lv_iconst (v := 0) hx hb d_M_good_80 (by decide) ?_
          exact z_iret (wf := fun _ : Unit => (wM bd G st ++ wr)) (u := ()) hx hb hr hlocks h0 hw rfl (by rw [m_good, if_neg c_7, if_neg c_19, if_neg c_31, if_neg c_52]) (Nat.le_of_ble_eq_true rfl) (Nat.le_of_ble_eq_true rfl) d_M_good_81
        · refine lv_aload_n hx hb d_M_good_55 rfl (lv_at hl 0 rfl) ?_
          refine va_get (D := G.1) (ci := 3) (v := .ref (bd 6)) (C := R_M) (T := T_M) (N := 25) hx hb hts in_M hown h0.1 hw.1 0 rfl rfl 6 (by decide) (hg (.fieldLink R_M 23 "SecureEntryModel" "holder" "[I") (by decide +kernel)) (fun _ h9 => h9) rfl d_M_good_56 ?_
          refine lv_iconst (v := 4) hx hb d_M_good_59 (by decide) ?_
          refine lv_iload_n hx hb d_M_good_60 rfl (lv_at hl 1 rfl) ?_
          refine lv_imul hx hb d_M_good_61 ?_
          refine va_iald (f := (st.2 6)) hx hb h0.1 hw.1 5 0 rfl rfl (z_m0 hp1) d_M_good_62 ?_
          refine lv_aload_n hx hb d_M_good_63 rfl (lv_at hl 0 rfl) ?_
          refine va_get (D := G.1) (ci := 3) (v := .ref (bd 6)) (C := R_M) (T := T_M) (N := 25) hx hb hts in_M hown h0.1 hw.1 0 rfl rfl 6 (by decide) (hg (.fieldLink R_M 23 "SecureEntryModel" "holder" "[I") (by decide +kernel)) (fun _ h9 => h9) rfl d_M_good_64 ?_
          refine lv_iconst (v := 4) hx hb d_M_good_67 (by decide) ?_
          refine lv_iload_n hx hb d_M_good_68 rfl (lv_at hl 1 rfl) ?_
          refine lv_imul hx hb d_M_good_69 ?_
          refine lv_iconst (v := 2) hx hb d_M_good_70 (by decide) ?_
          refine lv_iadd hx hb d_M_good_71 ?_
          refine va_iald (f := (st.2 6)) hx hb h0.1 hw.1 5 0 rfl rfl (z_m2 hp1) d_M_good_72 ?_
          refine lv_icmp_ne (tgt := 80) hx hb d_M_good_73 (by decide) (fun c_73 => ?_) (fun c_73 => ?_)
          · refine lv_iconst (v := 0) hx hb d_M_good_80 (by decide) ?_
            exact z_iret (wf := fun _ : Unit => (wM bd G st ++ wr)) (u := ()) hx hb hr hlocks h0 hw rfl (by rw [m_good, if_neg c_7, if_neg c_19, if_neg c_31, if_pos c_52, if_neg c_73]) (Nat.le_of_ble_eq_true rfl) (Nat.le_of_ble_eq_true rfl) d_M_good_81
          · refine lv_iconst (v := 1) hx hb d_M_good_76 (by decide) ?_
            refine lv_goto (tgt := 81) hx hb d_M_good_77 (by decide) ?_
            exact z_iret (wf := fun _ : Unit => (wM bd G st ++ wr)) (u := ()) hx hb hr hlocks h0 hw rfl (by rw [m_good, if_neg c_7, if_neg c_19, if_neg c_31, if_pos c_52, if_pos c_73]) (Nat.le_of_ble_eq_true rfl) (Nat.le_of_ble_eq_true rfl) d_M_good_81

end MC
