section CON
set_option maxHeartbeats 4000000 in
set_option maxRecDepth 100000 in
theorem c_S_isUnlocked (l : Launch) (G : gG) (ad : Nat → Nat) (st : CS) (wr : va_W) (sz : Nat)   : Met l y_S_isUnlocked w_S_isUnlocked { frames := 0, cells := 0, slots := 0, locals := 0 } (va_Pc [.ref (ad 0)] (z_pre G (wC ad G st ++ wr) sz)) (z_Qi0 G (wC ad G st ++ wr) sz (wC ad G st ++ wr) (f_isUnlocked st)) 0 0 (va_A (wC ad G st ++ wr) sz) := by
  refine Met.ofW (cc := b_S_isUnlocked) (maxL := 1) (ret := (some .boolean)) (by decide) rfl ?_
  intro p e s m args below meth c s₁ B hml hv
  obtain ⟨rfl, hsz, hP, hK, hD0, ham⟩ := hv
  subst hsz
  have hx := B.exec
  have hb := B.bytes
  have hr := B.returns
  have hts : ∀ w ∈ goT, w.before _ s = true := fun w h => atoms_spec (ws := w_S_isUnlocked) B.pre w (List.mem_cons_of_mem _ h)
  have hg : ∀ w, goB w = true → w.before _ s = true := fun w h => hts w (goI h)
  have hown : s.vm.findClass R_S = some m.cls := findClass_of_methodNamed B.named
  have hlocks := B.notSynchronized
  have h0 : z_st G (wC ad G st ++ wr) s := ⟨hK, ham⟩
  have hw : z_wl G (wC ad G st ++ wr) s (wC ad G st ++ wr) s.heap [] := z_0 hP hD0
  have hl := lv_entry ([.ref (ad 0)]) (n := 1) (Nat.le_of_ble_eq_true rfl)
  rw [lg_entry_eq]
  generalize (lg_sl ([.ref (ad 0)]) ++ List.replicate (1 - (lg_sl ([.ref (ad 0)])).length) Slot.unset).toArray = ls at hl ⊢
  have hl : lv_has ls 1 [(0, .ref (ad 0))] := hl
  refine lv_aload_n hx hb d_S_isUnlocked_0 rfl (lv_at hl 0 rfl) ?_
  refine va_get (D := G.1) (ci := 2) (v := .int (st.1 4)) (C := R_S) (T := T_S) (N := 14) hx hb hts in_S hown h0.1 hw.1 0 rfl rfl 4 (by decide) (hg (.fieldLink R_S 101 "SecureEntry" "time" "I") (by decide +kernel)) (fun _ h9 => h9) rfl d_S_isUnlocked_1 ?_
  refine lv_aload_n hx hb d_S_isUnlocked_4 rfl (lv_at hl 0 rfl) ?_
  refine va_get (D := G.1) (ci := 2) (v := .int (st.1 11)) (C := R_S) (T := T_S) (N := 14) hx hb hts in_S hown h0.1 hw.1 0 rfl rfl 11 (by decide) (hg (.fieldLink R_S 161 "SecureEntry" "unlockedUntil" "I") (by decide +kernel)) (fun _ h9 => h9) rfl d_S_isUnlocked_5 ?_
  refine lv_icmp_ge (tgt := 15) hx hb d_S_isUnlocked_8 (by decide) (fun c_8 => ?_) (fun c_8 => ?_)
  · refine lv_iconst (v := 0) hx hb d_S_isUnlocked_15 (by decide) ?_
    exact z_iret (wf := fun _ : Unit => (wC ad G st ++ wr)) (u := ()) hx hb hr hlocks h0 hw rfl (by rw [f_isUnlocked, if_pos c_8]) (Nat.le_of_ble_eq_true rfl) (Nat.le_of_ble_eq_true rfl) d_S_isUnlocked_16
  · refine lv_iconst (v := 1) hx hb d_S_isUnlocked_11 (by decide) ?_
    refine lv_goto (tgt := 16) hx hb d_S_isUnlocked_12 (by decide) ?_
    exact z_iret (wf := fun _ : Unit => (wC ad G st ++ wr)) (u := ()) hx hb hr hlocks h0 hw rfl (by rw [f_isUnlocked, if_neg c_8]) (Nat.le_of_ble_eq_true rfl) (Nat.le_of_ble_eq_true rfl) d_S_isUnlocked_16
set_option maxHeartbeats 4000000 in
set_option maxRecDepth 100000 in
theorem c_S_isAlarmSounding (l : Launch) (G : gG) (ad : Nat → Nat) (st : CS) (wr : va_W) (sz : Nat)   : Met l y_S_isAlarmSounding w_S_isAlarmSounding { frames := 1, cells := 0, slots := 0, locals := 20 } (va_Pc [.ref (ad 0)] (z_pre G (wC ad G st ++ wr) sz)) (z_Qi0 G (wC ad G st ++ wr) sz (wC ad G st ++ wr) (f_isAlarmSounding st)) 0 0 (va_A (wC ad G st ++ wr) sz) := by
  refine Met.ofW (cc := b_S_isAlarmSounding) (maxL := 1) (ret := (some .boolean)) (by decide) rfl ?_
  intro p e s m args below meth c s₁ B hml hv
  obtain ⟨rfl, hsz, hP, hK, hD0, ham⟩ := hv
  subst hsz
  have hx := B.exec
  have hb := B.bytes
  have hr := B.returns
  have hts : ∀ w ∈ goT, w.before _ s = true := fun w h => atoms_spec (ws := w_S_isAlarmSounding) B.pre w (List.mem_cons_of_mem _ h)
  have hg : ∀ w, goB w = true → w.before _ s = true := fun w h => hts w (goI h)
  have hown : s.vm.findClass R_S = some m.cls := findClass_of_methodNamed B.named
  have hlocks := B.notSynchronized
  have h0 : z_st G (wC ad G st ++ wr) s := ⟨hK, ham⟩
  have hw : z_wl G (wC ad G st ++ wr) s (wC ad G st ++ wr) s.heap [] := z_0 hP hD0
  have hl := lv_entry ([.ref (ad 0)]) (n := 1) (Nat.le_of_ble_eq_true rfl)
  rw [lg_entry_eq]
  generalize (lg_sl ([.ref (ad 0)]) ++ List.replicate (1 - (lg_sl ([.ref (ad 0)])).length) Slot.unset).toArray = ls at hl ⊢
  have hl : lv_has ls 1 [(0, .ref (ad 0))] := hl
  refine lv_aload_n hx hb d_S_isAlarmSounding_0 rfl (lv_at hl 0 rfl) ?_
  refine va_get (D := G.1) (ci := 2) (v := .int (st.1 13)) (C := R_S) (T := T_S) (N := 14) hx hb hts in_S hown h0.1 hw.1 0 rfl rfl 13 (by decide) (hg (.fieldLink R_S 173 "SecureEntry" "doorOpen" "Z") (by decide +kernel)) (fun _ h9 => h9) rfl d_S_isAlarmSounding_1 ?_
  refine lv_if_eq (tgt := 29) hx hb d_S_isAlarmSounding_4 (by decide) (fun c_4 => ?_) (fun c_4 => ?_)
  · refine lv_iconst (v := 0) hx hb d_S_isAlarmSounding_29 (by decide) ?_
    exact z_iret (wf := fun _ : Unit => (wC ad G st ++ wr)) (u := ()) hx hb hr hlocks h0 hw rfl (by rw [f_isAlarmSounding, if_pos c_4]) (Nat.le_of_ble_eq_true rfl) (Nat.le_of_ble_eq_true rfl) d_S_isAlarmSounding_30
  · refine lv_aload_n hx hb d_S_isAlarmSounding_7 rfl (lv_at hl 0 rfl) ?_
    refine z_Vi0 (As := []) (v := (f_isUnlocked st)) ⟨hx, hb, hml, hown, hts⟩ (c_S_isUnlocked l G ad st wr _) (cwV 0 hts gV_S_176 rfl rfl rfl (by decide +kernel) ⟨Nat.le_of_ble_eq_true rfl, Nat.le_of_ble_eq_true rfl⟩) h0 hw 0 rfl rfl rfl rfl hl.1 rfl (Nat.le_of_ble_eq_true rfl) d_S_isAlarmSounding_8 ⟨Nat.le_of_ble_eq_true rfl, Nat.le_of_ble_eq_true rfl⟩ (fun H locs hw => ?_)
    refine lv_if_ne (tgt := 29) hx hb d_S_isAlarmSounding_11 (by decide) (fun c_11 => ?_) (fun c_11 => ?_)
    · refine lv_iconst (v := 0) hx hb d_S_isAlarmSounding_29 (by decide) ?_
      exact z_iret (wf := fun _ : Unit => (wC ad G st ++ wr)) (u := ()) hx hb hr hlocks h0 hw rfl (by rw [f_isAlarmSounding, if_neg c_4, if_neg c_11]) (Nat.le_of_ble_eq_true rfl) (Nat.le_of_ble_eq_true rfl) d_S_isAlarmSounding_30
    · refine lv_aload_n hx hb d_S_isAlarmSounding_14 rfl (lv_at hl 0 rfl) ?_
      refine va_get (D := G.1) (ci := 2) (v := .int (st.1 4)) (C := R_S) (T := T_S) (N := 14) hx hb hts in_S hown h0.1 hw.1 0 rfl rfl 4 (by decide) (hg (.fieldLink R_S 101 "SecureEntry" "time" "I") (by decide +kernel)) (fun _ h9 => h9) rfl d_S_isAlarmSounding_15 ?_
      refine lv_aload_n hx hb d_S_isAlarmSounding_18 rfl (lv_at hl 0 rfl) ?_
      refine va_get (D := G.1) (ci := 2) (v := .int (st.1 12)) (C := R_S) (T := T_S) (N := 14) hx hb hts in_S hown h0.1 hw.1 0 rfl rfl 12 (by decide) (hg (.fieldLink R_S 180 "SecureEntry" "alarmTime" "I") (by decide +kernel)) (fun _ h9 => h9) rfl d_S_isAlarmSounding_19 ?_
      refine lv_icmp_lt (tgt := 29) hx hb d_S_isAlarmSounding_22 (by decide) (fun c_22 => ?_) (fun c_22 => ?_)
      · refine lv_iconst (v := 0) hx hb d_S_isAlarmSounding_29 (by decide) ?_
        exact z_iret (wf := fun _ : Unit => (wC ad G st ++ wr)) (u := ()) hx hb hr hlocks h0 hw rfl (by rw [f_isAlarmSounding, if_neg c_4, if_pos c_11, if_pos c_22]) (Nat.le_of_ble_eq_true rfl) (Nat.le_of_ble_eq_true rfl) d_S_isAlarmSounding_30
      · refine lv_iconst (v := 1) hx hb d_S_isAlarmSounding_25 (by decide) ?_
        refine lv_goto (tgt := 30) hx hb d_S_isAlarmSounding_26 (by decide) ?_
        exact z_iret (wf := fun _ : Unit => (wC ad G st ++ wr)) (u := ()) hx hb hr hlocks h0 hw rfl (by rw [f_isAlarmSounding, if_neg c_4, if_pos c_11, if_neg c_22]) (Nat.le_of_ble_eq_true rfl) (Nat.le_of_ble_eq_true rfl) d_S_isAlarmSounding_30
set_option maxHeartbeats 4000000 in
set_option maxRecDepth 100000 in
theorem c_S_becomeUserState (l : Launch) (G : gG) (ad : Nat → Nat) (st : CS) (wr : va_W) (sz : Nat) (p1 : Int32)  : Met l y_S_becomeUserState w_S_becomeUserState { frames := 0, cells := 0, slots := 0, locals := 0 } (va_Pc [.ref (ad 0), .int p1] (z_pre G (wC ad G st ++ wr) sz)) (z_Qv0 G (wC ad G st ++ wr) sz (wC ad G (f_becomeUserState st p1) ++ wr)) 0 0 (va_A (wC ad G st ++ wr) sz) := by
  refine Met.ofW (cc := b_S_becomeUserState) (maxL := 2) (ret := none) (by decide) rfl ?_
  intro p e s m args below meth c s₁ B hml hv
  obtain ⟨rfl, hsz, hP, hK, hD0, ham⟩ := hv
  subst hsz
  have hx := B.exec
  have hb := B.bytes
  have hr := B.returns
  have hts : ∀ w ∈ goT, w.before _ s = true := fun w h => atoms_spec (ws := w_S_becomeUserState) B.pre w (List.mem_cons_of_mem _ h)
  have hg : ∀ w, goB w = true → w.before _ s = true := fun w h => hts w (goI h)
  have hown : s.vm.findClass R_S = some m.cls := findClass_of_methodNamed B.named
  have hlocks := B.notSynchronized
  have h0 : z_st G (wC ad G st ++ wr) s := ⟨hK, ham⟩
  have hw : z_wl G (wC ad G st ++ wr) s (wC ad G st ++ wr) s.heap [] := z_0 hP hD0
  have hl := lv_entry ([.ref (ad 0), .int p1]) (n := 2) (Nat.le_of_ble_eq_true rfl)
  rw [lg_entry_eq]
  generalize (lg_sl ([.ref (ad 0), .int p1]) ++ List.replicate (2 - (lg_sl ([.ref (ad 0), .int p1])).length) Slot.unset).toArray = ls at hl ⊢
  have hl : lv_has ls 2 [(0, .ref (ad 0)), (1, .int p1)] := hl
  refine lv_aload_n hx hb d_S_becomeUserState_0 rfl (lv_at hl 0 rfl) ?_
  refine lv_iload_n hx hb d_S_becomeUserState_1 rfl (lv_at hl 1 rfl) ?_
  refine va_put (D := G.1) (ci := 2) (v := .int p1) (ty := .int) (C := R_S) (T := T_S) (N := 14) hx hb hts in_S ty_S ty_S_ok n_S hown h0.1 hw.1 hw.2.1 hw.2.2 0 rfl rfl 6 (by decide) (hg (.fieldLink R_S 37 "SecureEntry" "userState" "I") (by decide +kernel)) (fun _ h9 => h9) rfl (by decide +kernel) rfl rfl (Nat.le_of_ble_eq_true rfl) d_S_becomeUserState_2 (fun H locs hP hD hS => ?_)
  have hw : z_wl G (wC ad G st ++ wr) s (wC ad G (sS st 6 p1) ++ wr) H locs := ⟨hP, hD, hS⟩
  refine lv_aload_n hx hb d_S_becomeUserState_5 rfl (lv_at hl 0 rfl) ?_
  refine lv_aload_n hx hb d_S_becomeUserState_6 rfl (lv_at hl 0 rfl) ?_
  refine va_get (D := G.1) (ci := 2) (v := .int (st.1 4)) (C := R_S) (T := T_S) (N := 14) hx hb hts in_S hown h0.1 hw.1 0 rfl rfl 4 (by decide) (hg (.fieldLink R_S 101 "SecureEntry" "time" "I") (by decide +kernel)) (fun _ h9 => h9) rfl d_S_becomeUserState_7 ?_
  refine va_put (D := G.1) (ci := 2) (v := .int (st.1 4)) (ty := .int) (C := R_S) (T := T_S) (N := 14) hx hb hts in_S ty_S ty_S_ok n_S hown h0.1 hw.1 hw.2.1 hw.2.2 0 rfl rfl 7 (by decide) (hg (.fieldLink R_S 263 "SecureEntry" "userStateSince" "I") (by decide +kernel)) (fun _ h9 => h9) rfl (by decide +kernel) rfl rfl (Nat.le_of_ble_eq_true rfl) d_S_becomeUserState_10 (fun H locs hP hD hS => ?_)
  have hw : z_wl G (wC ad G st ++ wr) s (wC ad G (sS (sS st 6 p1) 7 (st.1 4)) ++ wr) H locs := ⟨hP, hD, hS⟩
  exact z_vret (wf := fun _ : Unit => (wC ad G (f_becomeUserState st p1) ++ wr)) (u := ()) hx hb hr hlocks h0 (by rw [f_becomeUserState]; exact hw) trivial (Nat.le_of_ble_eq_true rfl) (Nat.le_of_ble_eq_true rfl) d_S_becomeUserState_13
set_option maxHeartbeats 4000000 in
set_option maxRecDepth 100000 in
theorem c_S_unlock (l : Launch) (G : gG) (ad : Nat → Nat) (st : CS) (wr : va_W) (sz : Nat)   : Met l y_S_unlock w_S_unlock { frames := 0, cells := 0, slots := 0, locals := 0 } (va_Pc [.ref (ad 0)] (z_pre G (wC ad G st ++ wr) sz)) (z_Qv0 G (wC ad G st ++ wr) sz (wC ad G (f_unlock st) ++ wr)) 0 0 (va_A (wC ad G st ++ wr) sz) := by
  refine Met.ofW (cc := b_S_unlock) (maxL := 1) (ret := none) (by decide) rfl ?_
  intro p e s m args below meth c s₁ B hml hv
  obtain ⟨rfl, hsz, hP, hK, hD0, ham⟩ := hv
  subst hsz
  have hx := B.exec
  have hb := B.bytes
  have hr := B.returns
  have hts : ∀ w ∈ goT, w.before _ s = true := fun w h => atoms_spec (ws := w_S_unlock) B.pre w (List.mem_cons_of_mem _ h)
  have hg : ∀ w, goB w = true → w.before _ s = true := fun w h => hts w (goI h)
  have hown : s.vm.findClass R_S = some m.cls := findClass_of_methodNamed B.named
  have hlocks := B.notSynchronized
  have h0 : z_st G (wC ad G st ++ wr) s := ⟨hK, ham⟩
  have hw : z_wl G (wC ad G st ++ wr) s (wC ad G st ++ wr) s.heap [] := z_0 hP hD0
  have hl := lv_entry ([.ref (ad 0)]) (n := 1) (Nat.le_of_ble_eq_true rfl)
  rw [lg_entry_eq]
  generalize (lg_sl ([.ref (ad 0)]) ++ List.replicate (1 - (lg_sl ([.ref (ad 0)])).length) Slot.unset).toArray = ls at hl ⊢
  have hl : lv_has ls 1 [(0, .ref (ad 0))] := hl
  refine lv_aload_n hx hb d_S_unlock_0 rfl (lv_at hl 0 rfl) ?_
  refine lv_aload_n hx hb d_S_unlock_1 rfl (lv_at hl 0 rfl) ?_
  refine va_get (D := G.1) (ci := 2) (v := .int (st.1 4)) (C := R_S) (T := T_S) (N := 14) hx hb hts in_S hown h0.1 hw.1 0 rfl rfl 4 (by decide) (hg (.fieldLink R_S 101 "SecureEntry" "time" "I") (by decide +kernel)) (fun _ h9 => h9) rfl d_S_unlock_2 ?_
  refine lv_aload_n hx hb d_S_unlock_5 rfl (lv_at hl 0 rfl) ?_
  refine va_get (D := G.1) (ci := 2) (v := .ref (ad 1)) (C := R_S) (T := T_S) (N := 14) hx hb hts in_S hown h0.1 hw.1 0 rfl rfl 0 (by decide) (hg (.fieldLink R_S 18 "SecureEntry" "configuration" "[I") (by decide +kernel)) (fun _ h9 => h9) rfl d_S_unlock_6 ?_
  refine lv_iconst (v := 0) hx hb d_S_unlock_9 (by decide) ?_
  refine va_iald hx hb h0.1 hw.1 1 0 rfl rfl (show vp_in 0 6 by unfold vp_in; decide) d_S_unlock_10 ?_
  refine lv_iadd hx hb d_S_unlock_11 ?_
  refine va_put (D := G.1) (ci := 2) (v := .int ((st.1 4) + ((st.2.1 0) (0 : Int32).toNatClampNeg))) (ty := .int) (C := R_S) (T := T_S) (N := 14) hx hb hts in_S ty_S ty_S_ok n_S hown h0.1 hw.1 hw.2.1 hw.2.2 0 rfl rfl 11 (by decide) (hg (.fieldLink R_S 161 "SecureEntry" "unlockedUntil" "I") (by decide +kernel)) (fun _ h9 => h9) rfl (by decide +kernel) rfl rfl (Nat.le_of_ble_eq_true rfl) d_S_unlock_12 (fun H locs hP hD hS => ?_)
  have hw : z_wl G (wC ad G st ++ wr) s (wC ad G (sS st 11 ((st.1 4) + ((st.2.1 0) (0 : Int32).toNatClampNeg))) ++ wr) H locs := ⟨hP, hD, hS⟩
  refine lv_aload_n hx hb d_S_unlock_15 rfl (lv_at hl 0 rfl) ?_
  refine lv_aload_n hx hb d_S_unlock_16 rfl (lv_at hl 0 rfl) ?_
  refine va_get (D := G.1) (ci := 2) (v := .int ((st.1 4) + ((st.2.1 0) (0 : Int32).toNatClampNeg))) (C := R_S) (T := T_S) (N := 14) hx hb hts in_S hown h0.1 hw.1 0 rfl rfl 11 (by decide) (hg (.fieldLink R_S 161 "SecureEntry" "unlockedUntil" "I") (by decide +kernel)) (fun _ h9 => h9) rfl d_S_unlock_17 ?_
  refine lv_aload_n hx hb d_S_unlock_20 rfl (lv_at hl 0 rfl) ?_
  refine va_get (D := G.1) (ci := 2) (v := .ref (ad 1)) (C := R_S) (T := T_S) (N := 14) hx hb hts in_S hown h0.1 hw.1 0 rfl rfl 0 (by decide) (hg (.fieldLink R_S 18 "SecureEntry" "configuration" "[I") (by decide +kernel)) (fun _ h9 => h9) rfl d_S_unlock_21 ?_
  refine lv_iconst (v := 1) hx hb d_S_unlock_24 (by decide) ?_
  refine va_iald hx hb h0.1 hw.1 1 0 rfl rfl (show vp_in 1 6 by unfold vp_in; decide) d_S_unlock_25 ?_
  refine lv_iadd hx hb d_S_unlock_26 ?_
  refine va_put (D := G.1) (ci := 2) (v := .int (((st.1 4) + ((st.2.1 0) (0 : Int32).toNatClampNeg)) + ((st.2.1 0) (1 : Int32).toNatClampNeg))) (ty := .int) (C := R_S) (T := T_S) (N := 14) hx hb hts in_S ty_S ty_S_ok n_S hown h0.1 hw.1 hw.2.1 hw.2.2 0 rfl rfl 12 (by decide) (hg (.fieldLink R_S 180 "SecureEntry" "alarmTime" "I") (by decide +kernel)) (fun _ h9 => h9) rfl (by decide +kernel) rfl rfl (Nat.le_of_ble_eq_true rfl) d_S_unlock_27 (fun H locs hP hD hS => ?_)
  have hw : z_wl G (wC ad G st ++ wr) s (wC ad G (sS (sS st 11 ((st.1 4) + ((st.2.1 0) (0 : Int32).toNatClampNeg))) 12 (((st.1 4) + ((st.2.1 0) (0 : Int32).toNatClampNeg)) + ((st.2.1 0) (1 : Int32).toNatClampNeg))) ++ wr) H locs := ⟨hP, hD, hS⟩
  exact z_vret (wf := fun _ : Unit => (wC ad G (f_unlock st) ++ wr)) (u := ()) hx hb hr hlocks h0 (by rw [f_unlock]; exact hw) trivial (Nat.le_of_ble_eq_true rfl) (Nat.le_of_ble_eq_true rfl) d_S_unlock_30
set_option maxHeartbeats 4000000 in
set_option maxRecDepth 100000 in
theorem c_O_loseOldest (l : Launch) (G : gG) (ad : Nat → Nat) (st : CS) (wr : va_W) (sz : Nat)   : Met l y_O_loseOldest w_O_loseOldest { frames := 1, cells := 0, slots := 0, locals := 40 } (va_Pc [.ref (ad 4)] (z_pre G (wC ad G st ++ wr) sz)) (z_Qv0 G (wC ad G st ++ wr) sz (wC ad G (f_loseOldest st) ++ wr)) 0 0 (va_A (wC ad G st ++ wr) sz) := by
  refine Met.ofW (cc := b_O_loseOldest) (maxL := 1) (ret := none) (by decide) rfl ?_
  intro p e s m args below meth c s₁ B hml hv
  obtain ⟨rfl, hsz, hP, hK, hD0, ham⟩ := hv
  subst hsz
  have hx := B.exec
  have hb := B.bytes
  have hr := B.returns
  have hts : ∀ w ∈ goT, w.before _ s = true := fun w h => atoms_spec (ws := w_O_loseOldest) B.pre w (List.mem_cons_of_mem _ h)
  have hg : ∀ w, goB w = true → w.before _ s = true := fun w h => hts w (goI h)
  have hown : s.vm.findClass R_O = some m.cls := findClass_of_methodNamed B.named
  have hlocks := B.notSynchronized
  have h0 : z_st G (wC ad G st ++ wr) s := ⟨hK, ham⟩
  have hw : z_wl G (wC ad G st ++ wr) s (wC ad G st ++ wr) s.heap [] := z_0 hP hD0
  have hl := lv_entry ([.ref (ad 4)]) (n := 1) (Nat.le_of_ble_eq_true rfl)
  rw [lg_entry_eq]
  generalize (lg_sl ([.ref (ad 4)]) ++ List.replicate (1 - (lg_sl ([.ref (ad 4)])).length) Slot.unset).toArray = ls at hl ⊢
  have hl : lv_has ls 1 [(0, .ref (ad 4))] := hl
  refine lv_aload_n hx hb d_O_loseOldest_0 rfl (lv_at hl 0 rfl) ?_
  refine lv_bipush (v := 12) hx hb d_O_loseOldest_1 (by decide) ?_
  refine va_put (D := G.1) (ci := 1) (v := .int 12) (ty := .int) (C := R_O) (T := T_O) (N := 5) hx hb hts in_O ty_O ty_O_ok n_O hown h0.1 hw.1 hw.2.1 hw.2.2 4 rfl rfl 3 (by decide) (hg (.fieldLink R_O 19 "SecureEntry$Log" "size" "I") (by decide +kernel)) (fun _ h9 => h9) rfl (by decide +kernel) rfl rfl (Nat.le_of_ble_eq_true rfl) d_O_loseOldest_3 (fun H locs hP hD hS => ?_)
  have hw : z_wl G (wC ad G st ++ wr) s (wC ad G (sS st 14 12) ++ wr) H locs := ⟨hP, hD, hS⟩
  refine lv_aload_n hx hb d_O_loseOldest_6 rfl (lv_at hl 0 rfl) ?_
  refine va_get (D := G.1) (ci := 1) (v := .ref (ad 5)) (C := R_O) (T := T_O) (N := 5) hx hb hts in_O hown h0.1 hw.1 4 rfl rfl 0 (by decide) (hg (.fieldLink R_O 9 "SecureEntry$Log" "kinds" "[I") (by decide +kernel)) (fun _ h9 => h9) rfl d_O_loseOldest_7 ?_
  refine lv_iconst (v := 4) hx hb d_O_loseOldest_10 (by decide) ?_
  refine lv_aload_n hx hb d_O_loseOldest_11 rfl (lv_at hl 0 rfl) ?_
  refine va_get (D := G.1) (ci := 1) (v := .ref (ad 5)) (C := R_O) (T := T_O) (N := 5) hx hb hts in_O hown h0.1 hw.1 4 rfl rfl 0 (by decide) (hg (.fieldLink R_O 9 "SecureEntry$Log" "kinds" "[I") (by decide +kernel)) (fun _ h9 => h9) rfl d_O_loseOldest_12 ?_
  refine lv_iconst (v := 0) hx hb d_O_loseOldest_15 (by decide) ?_
  refine lv_aload_n hx hb d_O_loseOldest_16 rfl (lv_at hl 0 rfl) ?_
  refine va_get (D := G.1) (ci := 1) (v := .int 12) (C := R_O) (T := T_O) (N := 5) hx hb hts in_O hown h0.1 hw.1 4 rfl rfl 3 (by decide) (hg (.fieldLink R_O 19 "SecureEntry$Log" "size" "I") (by decide +kernel)) (fun _ h9 => h9) rfl d_O_loseOldest_17 ?_
  refine va_copyi (f := (st.2.1 2)) (g := (st.2.1 2)) hx hb (by rw [hml]; exact hl.1.symm) hown (hg (.methodLink R_O 26 arraycopyName) (by decide +kernel)) (hg (.native arraycopyName) (by decide +kernel)) (hg (.static arraycopyName) (by decide +kernel)) (hg (.initialized "java/lang/System") (by decide +kernel)) h0.1 hw.1 hw.2.1 hw.2.2 5 5 0 0 rfl rfl rfl rfl rfl (by decide) (by decide) (by decide) (by decide) (by decide) (fun _ _ => rfl) (Nat.le_of_ble_eq_true rfl) (by decide) d_O_loseOldest_20 (fun H locs hP hD hS => ?_)
  have hw : z_wl G (wC ad G st ++ wr) s (wC ad G (sA (sS st 14 12) 2 (va_cpy (st.2.1 2) (st.2.1 2) (4 : Int32).toNatClampNeg (0 : Int32).toNatClampNeg (12 : Int32).toNatClampNeg)) ++ wr) H locs := ⟨hP, hD, hS⟩
  refine lv_aload_n hx hb d_O_loseOldest_23 rfl (lv_at hl 0 rfl) ?_
  refine va_get (D := G.1) (ci := 1) (v := .ref (ad 6)) (C := R_O) (T := T_O) (N := 5) hx hb hts in_O hown h0.1 hw.1 4 rfl rfl 1 (by decide) (hg (.fieldLink R_O 13 "SecureEntry$Log" "times" "[I") (by decide +kernel)) (fun _ h9 => h9) rfl d_O_loseOldest_24 ?_
  refine lv_iconst (v := 4) hx hb d_O_loseOldest_27 (by decide) ?_
  refine lv_aload_n hx hb d_O_loseOldest_28 rfl (lv_at hl 0 rfl) ?_
  refine va_get (D := G.1) (ci := 1) (v := .ref (ad 6)) (C := R_O) (T := T_O) (N := 5) hx hb hts in_O hown h0.1 hw.1 4 rfl rfl 1 (by decide) (hg (.fieldLink R_O 13 "SecureEntry$Log" "times" "[I") (by decide +kernel)) (fun _ h9 => h9) rfl d_O_loseOldest_29 ?_
  refine lv_iconst (v := 0) hx hb d_O_loseOldest_32 (by decide) ?_
  refine lv_aload_n hx hb d_O_loseOldest_33 rfl (lv_at hl 0 rfl) ?_
  refine va_get (D := G.1) (ci := 1) (v := .int 12) (C := R_O) (T := T_O) (N := 5) hx hb hts in_O hown h0.1 hw.1 4 rfl rfl 3 (by decide) (hg (.fieldLink R_O 19 "SecureEntry$Log" "size" "I") (by decide +kernel)) (fun _ h9 => h9) rfl d_O_loseOldest_34 ?_
  refine va_copyi (f := (st.2.1 3)) (g := (st.2.1 3)) hx hb (by rw [hml]; exact hl.1.symm) hown (hg (.methodLink R_O 26 arraycopyName) (by decide +kernel)) (hg (.native arraycopyName) (by decide +kernel)) (hg (.static arraycopyName) (by decide +kernel)) (hg (.initialized "java/lang/System") (by decide +kernel)) h0.1 hw.1 hw.2.1 hw.2.2 6 6 0 0 rfl rfl rfl rfl rfl (by decide) (by decide) (by decide) (by decide) (by decide) (fun _ _ => rfl) (Nat.le_of_ble_eq_true rfl) (by decide) d_O_loseOldest_37 (fun H locs hP hD hS => ?_)
  have hw : z_wl G (wC ad G st ++ wr) s (wC ad G (sA (sA (sS st 14 12) 2 (va_cpy (st.2.1 2) (st.2.1 2) (4 : Int32).toNatClampNeg (0 : Int32).toNatClampNeg (12 : Int32).toNatClampNeg)) 3 (va_cpy (st.2.1 3) (st.2.1 3) (4 : Int32).toNatClampNeg (0 : Int32).toNatClampNeg (12 : Int32).toNatClampNeg)) ++ wr) H locs := ⟨hP, hD, hS⟩
  refine lv_aload_n hx hb d_O_loseOldest_40 rfl (lv_at hl 0 rfl) ?_
  refine va_get (D := G.1) (ci := 1) (v := .ref (ad 7)) (C := R_O) (T := T_O) (N := 5) hx hb hts in_O hown h0.1 hw.1 4 rfl rfl 2 (by decide) (hg (.fieldLink R_O 16 "SecureEntry$Log" "holders" "[I") (by decide +kernel)) (fun _ h9 => h9) rfl d_O_loseOldest_41 ?_
  refine lv_iconst (v := 4) hx hb d_O_loseOldest_44 (by decide) ?_
  refine lv_aload_n hx hb d_O_loseOldest_45 rfl (lv_at hl 0 rfl) ?_
  refine va_get (D := G.1) (ci := 1) (v := .ref (ad 7)) (C := R_O) (T := T_O) (N := 5) hx hb hts in_O hown h0.1 hw.1 4 rfl rfl 2 (by decide) (hg (.fieldLink R_O 16 "SecureEntry$Log" "holders" "[I") (by decide +kernel)) (fun _ h9 => h9) rfl d_O_loseOldest_46 ?_
  refine lv_iconst (v := 0) hx hb d_O_loseOldest_49 (by decide) ?_
  refine lv_aload_n hx hb d_O_loseOldest_50 rfl (lv_at hl 0 rfl) ?_
  refine va_get (D := G.1) (ci := 1) (v := .int 12) (C := R_O) (T := T_O) (N := 5) hx hb hts in_O hown h0.1 hw.1 4 rfl rfl 3 (by decide) (hg (.fieldLink R_O 19 "SecureEntry$Log" "size" "I") (by decide +kernel)) (fun _ h9 => h9) rfl d_O_loseOldest_51 ?_
  refine va_copyi (f := (st.2.1 4)) (g := (st.2.1 4)) hx hb (by rw [hml]; exact hl.1.symm) hown (hg (.methodLink R_O 26 arraycopyName) (by decide +kernel)) (hg (.native arraycopyName) (by decide +kernel)) (hg (.static arraycopyName) (by decide +kernel)) (hg (.initialized "java/lang/System") (by decide +kernel)) h0.1 hw.1 hw.2.1 hw.2.2 7 7 0 0 rfl rfl rfl rfl rfl (by decide) (by decide) (by decide) (by decide) (by decide) (fun _ _ => rfl) (Nat.le_of_ble_eq_true rfl) (by decide) d_O_loseOldest_54 (fun H locs hP hD hS => ?_)
  have hw : z_wl G (wC ad G st ++ wr) s (wC ad G (sA (sA (sA (sS st 14 12) 2 (va_cpy (st.2.1 2) (st.2.1 2) (4 : Int32).toNatClampNeg (0 : Int32).toNatClampNeg (12 : Int32).toNatClampNeg)) 3 (va_cpy (st.2.1 3) (st.2.1 3) (4 : Int32).toNatClampNeg (0 : Int32).toNatClampNeg (12 : Int32).toNatClampNeg)) 4 (va_cpy (st.2.1 4) (st.2.1 4) (4 : Int32).toNatClampNeg (0 : Int32).toNatClampNeg (12 : Int32).toNatClampNeg)) ++ wr) H locs := ⟨hP, hD, hS⟩
  refine lv_aload_n hx hb d_O_loseOldest_57 rfl (lv_at hl 0 rfl) ?_
  refine lv_iconst (v := 1) hx hb d_O_loseOldest_58 (by decide) ?_
  refine va_put (D := G.1) (ci := 1) (v := .int 1) (ty := .boolean) (C := R_O) (T := T_O) (N := 5) hx hb hts in_O ty_O ty_O_ok n_O hown h0.1 hw.1 hw.2.1 hw.2.2 4 rfl rfl 4 (by decide) (hg (.fieldLink R_O 32 "SecureEntry$Log" "alarm" "Z") (by decide +kernel)) (fun _ h9 => h9) rfl (by decide +kernel) rfl rfl (Nat.le_of_ble_eq_true rfl) d_O_loseOldest_59 (fun H locs hP hD hS => ?_)
  have hw : z_wl G (wC ad G st ++ wr) s (wC ad G (sS (sA (sA (sA (sS st 14 12) 2 (va_cpy (st.2.1 2) (st.2.1 2) (4 : Int32).toNatClampNeg (0 : Int32).toNatClampNeg (12 : Int32).toNatClampNeg)) 3 (va_cpy (st.2.1 3) (st.2.1 3) (4 : Int32).toNatClampNeg (0 : Int32).toNatClampNeg (12 : Int32).toNatClampNeg)) 4 (va_cpy (st.2.1 4) (st.2.1 4) (4 : Int32).toNatClampNeg (0 : Int32).toNatClampNeg (12 : Int32).toNatClampNeg)) 15 1) ++ wr) H locs := ⟨hP, hD, hS⟩
  exact z_vret (wf := fun _ : Unit => (wC ad G (f_loseOldest st) ++ wr)) (u := ()) hx hb hr hlocks h0 (by rw [f_loseOldest]; exact hw) trivial (Nat.le_of_ble_eq_true rfl) (Nat.le_of_ble_eq_true rfl) d_O_loseOldest_62
set_option maxHeartbeats 4000000 in
set_option maxRecDepth 100000 in
theorem c_O_clear (l : Launch) (G : gG) (ad : Nat → Nat) (st : CS) (wr : va_W) (sz : Nat)   : Met l y_O_clear w_O_clear { frames := 0, cells := 0, slots := 0, locals := 0 } (va_Pc [.ref (ad 4)] (z_pre G (wC ad G st ++ wr) sz)) (z_Qv0 G (wC ad G st ++ wr) sz (wC ad G (f_clear st) ++ wr)) 0 0 (va_A (wC ad G st ++ wr) sz) := by
  refine Met.ofW (cc := b_O_clear) (maxL := 1) (ret := none) (by decide) rfl ?_
  intro p e s m args below meth c s₁ B hml hv
  obtain ⟨rfl, hsz, hP, hK, hD0, ham⟩ := hv
  subst hsz
  have hx := B.exec
  have hb := B.bytes
  have hr := B.returns
  have hts : ∀ w ∈ goT, w.before _ s = true := fun w h => atoms_spec (ws := w_O_clear) B.pre w (List.mem_cons_of_mem _ h)
  have hg : ∀ w, goB w = true → w.before _ s = true := fun w h => hts w (goI h)
  have hown : s.vm.findClass R_O = some m.cls := findClass_of_methodNamed B.named
  have hlocks := B.notSynchronized
  have h0 : z_st G (wC ad G st ++ wr) s := ⟨hK, ham⟩
  have hw : z_wl G (wC ad G st ++ wr) s (wC ad G st ++ wr) s.heap [] := z_0 hP hD0
  have hl := lv_entry ([.ref (ad 4)]) (n := 1) (Nat.le_of_ble_eq_true rfl)
  rw [lg_entry_eq]
  generalize (lg_sl ([.ref (ad 4)]) ++ List.replicate (1 - (lg_sl ([.ref (ad 4)])).length) Slot.unset).toArray = ls at hl ⊢
  have hl : lv_has ls 1 [(0, .ref (ad 4))] := hl
  refine lv_aload_n hx hb d_O_clear_0 rfl (lv_at hl 0 rfl) ?_
  refine lv_iconst (v := 0) hx hb d_O_clear_1 (by decide) ?_
  refine va_put (D := G.1) (ci := 1) (v := .int 0) (ty := .int) (C := R_O) (T := T_O) (N := 5) hx hb hts in_O ty_O ty_O_ok n_O hown h0.1 hw.1 hw.2.1 hw.2.2 4 rfl rfl 3 (by decide) (hg (.fieldLink R_O 19 "SecureEntry$Log" "size" "I") (by decide +kernel)) (fun _ h9 => h9) rfl (by decide +kernel) rfl rfl (Nat.le_of_ble_eq_true rfl) d_O_clear_2 (fun H locs hP hD hS => ?_)
  have hw : z_wl G (wC ad G st ++ wr) s (wC ad G (sS st 14 0) ++ wr) H locs := ⟨hP, hD, hS⟩
  refine lv_aload_n hx hb d_O_clear_5 rfl (lv_at hl 0 rfl) ?_
  refine lv_iconst (v := 0) hx hb d_O_clear_6 (by decide) ?_
  refine va_put (D := G.1) (ci := 1) (v := .int 0) (ty := .boolean) (C := R_O) (T := T_O) (N := 5) hx hb hts in_O ty_O ty_O_ok n_O hown h0.1 hw.1 hw.2.1 hw.2.2 4 rfl rfl 4 (by decide) (hg (.fieldLink R_O 32 "SecureEntry$Log" "alarm" "Z") (by decide +kernel)) (fun _ h9 => h9) rfl (by decide +kernel) rfl rfl (Nat.le_of_ble_eq_true rfl) d_O_clear_7 (fun H locs hP hD hS => ?_)
  have hw : z_wl G (wC ad G st ++ wr) s (wC ad G (sS (sS st 14 0) 15 0) ++ wr) H locs := ⟨hP, hD, hS⟩
  exact z_vret (wf := fun _ : Unit => (wC ad G (f_clear st) ++ wr)) (u := ()) hx hb hr hlocks h0 (by rw [f_clear]; exact hw) trivial (Nat.le_of_ble_eq_true rfl) (Nat.le_of_ble_eq_true rfl) d_O_clear_10
set_option maxHeartbeats 4000000 in
set_option maxRecDepth 100000 in
theorem c_O_write (l : Launch) (G : gG) (ad : Nat → Nat) (st : CS) (wr : va_W) (sz : Nat) (p1 : Int32) (p2 : Int32) (p3 : Int32) (hI : InvC st) : Met l y_O_write w_O_write { frames := 2, cells := 0, slots := 0, locals := 60 } (va_Pc [.ref (ad 4), .int p1, .int p2, .int p3] (z_pre G (wC ad G st ++ wr) sz)) (z_Qv0 G (wC ad G st ++ wr) sz (wC ad G (f_write st p1 p2 p3) ++ wr)) 0 0 (va_A (wC ad G st ++ wr) sz) := by
  refine Met.ofW (cc := b_O_write) (maxL := 4) (ret := none) (by decide) rfl ?_
  intro p e s m args below meth c s₁ B hml hv
  obtain ⟨rfl, hsz, hP, hK, hD0, ham⟩ := hv
  subst hsz
  have hx := B.exec
  have hb := B.bytes
  have hr := B.returns
  have hts : ∀ w ∈ goT, w.before _ s = true := fun w h => atoms_spec (ws := w_O_write) B.pre w (List.mem_cons_of_mem _ h)
  have hg : ∀ w, goB w = true → w.before _ s = true := fun w h => hts w (goI h)
  have hown : s.vm.findClass R_O = some m.cls := findClass_of_methodNamed B.named
  have hlocks := B.notSynchronized
  have h0 : z_st G (wC ad G st ++ wr) s := ⟨hK, ham⟩
  have hw : z_wl G (wC ad G st ++ wr) s (wC ad G st ++ wr) s.heap [] := z_0 hP hD0
  have hl := lv_entry ([.ref (ad 4), .int p1, .int p2, .int p3]) (n := 4) (Nat.le_of_ble_eq_true rfl)
  rw [lg_entry_eq]
  generalize (lg_sl ([.ref (ad 4), .int p1, .int p2, .int p3]) ++ List.replicate (4 - (lg_sl ([.ref (ad 4), .int p1, .int p2, .int p3])).length) Slot.unset).toArray = ls at hl ⊢
  have hl : lv_has ls 4 [(0, .ref (ad 4)), (1, .int p1), (2, .int p2), (3, .int p3)] := hl
  refine lv_aload_n hx hb d_O_write_0 rfl (lv_at hl 0 rfl) ?_
  refine va_get (D := G.1) (ci := 1) (v := .int (st.1 14)) (C := R_O) (T := T_O) (N := 5) hx hb hts in_O hown h0.1 hw.1 4 rfl rfl 3 (by decide) (hg (.fieldLink R_O 19 "SecureEntry$Log" "size" "I") (by decide +kernel)) (fun _ h9 => h9) rfl d_O_write_1 ?_
  refine lv_bipush (v := 16) hx hb d_O_write_4 (by decide) ?_
  refine lv_icmp_lt (tgt := 13) hx hb d_O_write_6 (by decide) (fun c_6 => ?_) (fun c_6 => ?_)
  · refine lv_aload_n hx hb d_O_write_13 rfl (lv_at hl 0 rfl) ?_
    refine va_get (D := G.1) (ci := 1) (v := .ref (ad 5)) (C := R_O) (T := T_O) (N := 5) hx hb hts in_O hown h0.1 hw.1 4 rfl rfl 0 (by decide) (hg (.fieldLink R_O 9 "SecureEntry$Log" "kinds" "[I") (by decide +kernel)) (fun _ h9 => h9) rfl d_O_write_14 ?_
    refine lv_aload_n hx hb d_O_write_17 rfl (lv_at hl 0 rfl) ?_
    refine va_get (D := G.1) (ci := 1) (v := .int (st.1 14)) (C := R_O) (T := T_O) (N := 5) hx hb hts in_O hown h0.1 hw.1 4 rfl rfl 3 (by decide) (hg (.fieldLink R_O 19 "SecureEntry$Log" "size" "I") (by decide +kernel)) (fun _ h9 => h9) rfl d_O_write_18 ?_
    refine lv_iload_n hx hb d_O_write_21 rfl (lv_at hl 1 rfl) ?_
    refine va_iast hx hb h0.1 hw.1 hw.2.1 hw.2.2 5 0 rfl rfl (by first | exact z_ws1 hI.2.2.1 c_6 | (show vp_in 12 16; unfold vp_in; decide)) d_O_write_22 (fun H locs hP hD hS => ?_)
    have hI : InvC (sA st 2 (upd (st.2.1 2) (st.1 14).toNatClampNeg p1)) := inv_sA hI
    have hw : z_wl G (wC ad G st ++ wr) s (wC ad G (sA st 2 (upd (st.2.1 2) (st.1 14).toNatClampNeg p1)) ++ wr) H locs := ⟨hP, hD, hS⟩
    refine lv_aload_n hx hb d_O_write_23 rfl (lv_at hl 0 rfl) ?_
    refine va_get (D := G.1) (ci := 1) (v := .ref (ad 6)) (C := R_O) (T := T_O) (N := 5) hx hb hts in_O hown h0.1 hw.1 4 rfl rfl 1 (by decide) (hg (.fieldLink R_O 13 "SecureEntry$Log" "times" "[I") (by decide +kernel)) (fun _ h9 => h9) rfl d_O_write_24 ?_
    refine lv_aload_n hx hb d_O_write_27 rfl (lv_at hl 0 rfl) ?_
    refine va_get (D := G.1) (ci := 1) (v := .int (st.1 14)) (C := R_O) (T := T_O) (N := 5) hx hb hts in_O hown h0.1 hw.1 4 rfl rfl 3 (by decide) (hg (.fieldLink R_O 19 "SecureEntry$Log" "size" "I") (by decide +kernel)) (fun _ h9 => h9) rfl d_O_write_28 ?_
    refine lv_iload_n hx hb d_O_write_31 rfl (lv_at hl 2 rfl) ?_
    refine va_iast hx hb h0.1 hw.1 hw.2.1 hw.2.2 6 0 rfl rfl (by first | exact z_ws1 hI.2.2.1 c_6 | (show vp_in 12 16; unfold vp_in; decide)) d_O_write_32 (fun H locs hP hD hS => ?_)
    have hI : InvC (sA (sA st 2 (upd (st.2.1 2) (st.1 14).toNatClampNeg p1)) 3 (upd (st.2.1 3) (st.1 14).toNatClampNeg p2)) := inv_sA hI
    have hw : z_wl G (wC ad G st ++ wr) s (wC ad G (sA (sA st 2 (upd (st.2.1 2) (st.1 14).toNatClampNeg p1)) 3 (upd (st.2.1 3) (st.1 14).toNatClampNeg p2)) ++ wr) H locs := ⟨hP, hD, hS⟩
    refine lv_aload_n hx hb d_O_write_33 rfl (lv_at hl 0 rfl) ?_
    refine va_get (D := G.1) (ci := 1) (v := .ref (ad 7)) (C := R_O) (T := T_O) (N := 5) hx hb hts in_O hown h0.1 hw.1 4 rfl rfl 2 (by decide) (hg (.fieldLink R_O 16 "SecureEntry$Log" "holders" "[I") (by decide +kernel)) (fun _ h9 => h9) rfl d_O_write_34 ?_
    refine lv_aload_n hx hb d_O_write_37 rfl (lv_at hl 0 rfl) ?_
    refine va_get (D := G.1) (ci := 1) (v := .int (st.1 14)) (C := R_O) (T := T_O) (N := 5) hx hb hts in_O hown h0.1 hw.1 4 rfl rfl 3 (by decide) (hg (.fieldLink R_O 19 "SecureEntry$Log" "size" "I") (by decide +kernel)) (fun _ h9 => h9) rfl d_O_write_38 ?_
    refine lv_iload_n hx hb d_O_write_41 rfl (lv_at hl 3 rfl) ?_
    refine va_iast hx hb h0.1 hw.1 hw.2.1 hw.2.2 7 0 rfl rfl (by first | exact z_ws1 hI.2.2.1 c_6 | (show vp_in 12 16; unfold vp_in; decide)) d_O_write_42 (fun H locs hP hD hS => ?_)
    have hI : InvC (sA (sA (sA st 2 (upd (st.2.1 2) (st.1 14).toNatClampNeg p1)) 3 (upd (st.2.1 3) (st.1 14).toNatClampNeg p2)) 4 (upd (st.2.1 4) (st.1 14).toNatClampNeg p3)) := inv_sA hI
    have hw : z_wl G (wC ad G st ++ wr) s (wC ad G (sA (sA (sA st 2 (upd (st.2.1 2) (st.1 14).toNatClampNeg p1)) 3 (upd (st.2.1 3) (st.1 14).toNatClampNeg p2)) 4 (upd (st.2.1 4) (st.1 14).toNatClampNeg p3)) ++ wr) H locs := ⟨hP, hD, hS⟩
    refine lv_aload_n hx hb d_O_write_43 rfl (lv_at hl 0 rfl) ?_
    refine lv_dup hx hb d_O_write_44 rfl ?_
    refine va_get (D := G.1) (ci := 1) (v := .int (st.1 14)) (C := R_O) (T := T_O) (N := 5) hx hb hts in_O hown h0.1 hw.1 4 rfl rfl 3 (by decide) (hg (.fieldLink R_O 19 "SecureEntry$Log" "size" "I") (by decide +kernel)) (fun _ h9 => h9) rfl d_O_write_45 ?_
    refine lv_iconst (v := 1) hx hb d_O_write_48 (by decide) ?_
    refine lv_iadd hx hb d_O_write_49 ?_
    refine va_put (D := G.1) (ci := 1) (v := .int ((st.1 14) + 1)) (ty := .int) (C := R_O) (T := T_O) (N := 5) hx hb hts in_O ty_O ty_O_ok n_O hown h0.1 hw.1 hw.2.1 hw.2.2 4 rfl rfl 3 (by decide) (hg (.fieldLink R_O 19 "SecureEntry$Log" "size" "I") (by decide +kernel)) (fun _ h9 => h9) rfl (by decide +kernel) rfl rfl (Nat.le_of_ble_eq_true rfl) d_O_write_50 (fun H locs hP hD hS => ?_)
    have hw : z_wl G (wC ad G st ++ wr) s (wC ad G (sS (sA (sA (sA st 2 (upd (st.2.1 2) (st.1 14).toNatClampNeg p1)) 3 (upd (st.2.1 3) (st.1 14).toNatClampNeg p2)) 4 (upd (st.2.1 4) (st.1 14).toNatClampNeg p3)) 14 ((st.1 14) + 1)) ++ wr) H locs := ⟨hP, hD, hS⟩
    exact z_vret (wf := fun _ : Unit => (wC ad G (f_write st p1 p2 p3) ++ wr)) (u := ()) hx hb hr hlocks h0 (by rw [f_write, if_pos c_6]; exact hw) trivial (Nat.le_of_ble_eq_true rfl) (Nat.le_of_ble_eq_true rfl) d_O_write_53
  · refine lv_aload_n hx hb d_O_write_9 rfl (lv_at hl 0 rfl) ?_
    refine z_Vv0 (As := []) (ws1 := (wC ad G (f_loseOldest st) ++ wr)) ⟨hx, hb, hml, hown, hts⟩ (c_O_loseOldest l G ad st wr _) (cwV 0 hts gV_O_23 rfl rfl rfl (by decide +kernel) ⟨Nat.le_of_ble_eq_true rfl, Nat.le_of_ble_eq_true rfl⟩) h0 hw 4 rfl rfl rfl rfl hl.1 rfl (Nat.le_of_ble_eq_true rfl) d_O_write_10 ⟨Nat.le_of_ble_eq_true rfl, Nat.le_of_ble_eq_true rfl⟩ (fun H locs hw => ?_)
    have hI : InvC (f_loseOldest st) := inv_f_loseOldest hI
    refine lv_aload_n hx hb d_O_write_13 rfl (lv_at hl 0 rfl) ?_
    refine va_get (D := G.1) (ci := 1) (v := .ref (ad 5)) (C := R_O) (T := T_O) (N := 5) hx hb hts in_O hown h0.1 hw.1 4 rfl rfl 0 (by decide) (hg (.fieldLink R_O 9 "SecureEntry$Log" "kinds" "[I") (by decide +kernel)) (fun _ h9 => h9) rfl d_O_write_14 ?_
    refine lv_aload_n hx hb d_O_write_17 rfl (lv_at hl 0 rfl) ?_
    refine va_get (D := G.1) (ci := 1) (v := .int ((f_loseOldest st).1 14)) (C := R_O) (T := T_O) (N := 5) hx hb hts in_O hown h0.1 hw.1 4 rfl rfl 3 (by decide) (hg (.fieldLink R_O 19 "SecureEntry$Log" "size" "I") (by decide +kernel)) (fun _ h9 => h9) rfl d_O_write_18 ?_
    refine lv_iload_n hx hb d_O_write_21 rfl (lv_at hl 1 rfl) ?_
    refine va_iast hx hb h0.1 hw.1 hw.2.1 hw.2.2 5 0 rfl rfl (by first | exact z_ws1 hI.2.2.1 c_6 | (show vp_in 12 16; unfold vp_in; decide)) d_O_write_22 (fun H locs hP hD hS => ?_)
    have hI : InvC (sA (f_loseOldest st) 2 (upd ((f_loseOldest st).2.1 2) ((f_loseOldest st).1 14).toNatClampNeg p1)) := inv_sA hI
    have hw : z_wl G (wC ad G st ++ wr) s (wC ad G (sA (f_loseOldest st) 2 (upd ((f_loseOldest st).2.1 2) ((f_loseOldest st).1 14).toNatClampNeg p1)) ++ wr) H locs := ⟨hP, hD, hS⟩
    refine lv_aload_n hx hb d_O_write_23 rfl (lv_at hl 0 rfl) ?_
    refine va_get (D := G.1) (ci := 1) (v := .ref (ad 6)) (C := R_O) (T := T_O) (N := 5) hx hb hts in_O hown h0.1 hw.1 4 rfl rfl 1 (by decide) (hg (.fieldLink R_O 13 "SecureEntry$Log" "times" "[I") (by decide +kernel)) (fun _ h9 => h9) rfl d_O_write_24 ?_
    refine lv_aload_n hx hb d_O_write_27 rfl (lv_at hl 0 rfl) ?_
    refine va_get (D := G.1) (ci := 1) (v := .int ((f_loseOldest st).1 14)) (C := R_O) (T := T_O) (N := 5) hx hb hts in_O hown h0.1 hw.1 4 rfl rfl 3 (by decide) (hg (.fieldLink R_O 19 "SecureEntry$Log" "size" "I") (by decide +kernel)) (fun _ h9 => h9) rfl d_O_write_28 ?_
    refine lv_iload_n hx hb d_O_write_31 rfl (lv_at hl 2 rfl) ?_
    refine va_iast hx hb h0.1 hw.1 hw.2.1 hw.2.2 6 0 rfl rfl (by first | exact z_ws1 hI.2.2.1 c_6 | (show vp_in 12 16; unfold vp_in; decide)) d_O_write_32 (fun H locs hP hD hS => ?_)
    have hI : InvC (sA (sA (f_loseOldest st) 2 (upd ((f_loseOldest st).2.1 2) ((f_loseOldest st).1 14).toNatClampNeg p1)) 3 (upd ((f_loseOldest st).2.1 3) ((f_loseOldest st).1 14).toNatClampNeg p2)) := inv_sA hI
    have hw : z_wl G (wC ad G st ++ wr) s (wC ad G (sA (sA (f_loseOldest st) 2 (upd ((f_loseOldest st).2.1 2) ((f_loseOldest st).1 14).toNatClampNeg p1)) 3 (upd ((f_loseOldest st).2.1 3) ((f_loseOldest st).1 14).toNatClampNeg p2)) ++ wr) H locs := ⟨hP, hD, hS⟩
    refine lv_aload_n hx hb d_O_write_33 rfl (lv_at hl 0 rfl) ?_
    refine va_get (D := G.1) (ci := 1) (v := .ref (ad 7)) (C := R_O) (T := T_O) (N := 5) hx hb hts in_O hown h0.1 hw.1 4 rfl rfl 2 (by decide) (hg (.fieldLink R_O 16 "SecureEntry$Log" "holders" "[I") (by decide +kernel)) (fun _ h9 => h9) rfl d_O_write_34 ?_
    refine lv_aload_n hx hb d_O_write_37 rfl (lv_at hl 0 rfl) ?_
    refine va_get (D := G.1) (ci := 1) (v := .int ((f_loseOldest st).1 14)) (C := R_O) (T := T_O) (N := 5) hx hb hts in_O hown h0.1 hw.1 4 rfl rfl 3 (by decide) (hg (.fieldLink R_O 19 "SecureEntry$Log" "size" "I") (by decide +kernel)) (fun _ h9 => h9) rfl d_O_write_38 ?_
    refine lv_iload_n hx hb d_O_write_41 rfl (lv_at hl 3 rfl) ?_
    refine va_iast hx hb h0.1 hw.1 hw.2.1 hw.2.2 7 0 rfl rfl (by first | exact z_ws1 hI.2.2.1 c_6 | (show vp_in 12 16; unfold vp_in; decide)) d_O_write_42 (fun H locs hP hD hS => ?_)
    have hI : InvC (sA (sA (sA (f_loseOldest st) 2 (upd ((f_loseOldest st).2.1 2) ((f_loseOldest st).1 14).toNatClampNeg p1)) 3 (upd ((f_loseOldest st).2.1 3) ((f_loseOldest st).1 14).toNatClampNeg p2)) 4 (upd ((f_loseOldest st).2.1 4) ((f_loseOldest st).1 14).toNatClampNeg p3)) := inv_sA hI
    have hw : z_wl G (wC ad G st ++ wr) s (wC ad G (sA (sA (sA (f_loseOldest st) 2 (upd ((f_loseOldest st).2.1 2) ((f_loseOldest st).1 14).toNatClampNeg p1)) 3 (upd ((f_loseOldest st).2.1 3) ((f_loseOldest st).1 14).toNatClampNeg p2)) 4 (upd ((f_loseOldest st).2.1 4) ((f_loseOldest st).1 14).toNatClampNeg p3)) ++ wr) H locs := ⟨hP, hD, hS⟩
    refine lv_aload_n hx hb d_O_write_43 rfl (lv_at hl 0 rfl) ?_
    refine lv_dup hx hb d_O_write_44 rfl ?_
    refine va_get (D := G.1) (ci := 1) (v := .int ((f_loseOldest st).1 14)) (C := R_O) (T := T_O) (N := 5) hx hb hts in_O hown h0.1 hw.1 4 rfl rfl 3 (by decide) (hg (.fieldLink R_O 19 "SecureEntry$Log" "size" "I") (by decide +kernel)) (fun _ h9 => h9) rfl d_O_write_45 ?_
    refine lv_iconst (v := 1) hx hb d_O_write_48 (by decide) ?_
    refine lv_iadd hx hb d_O_write_49 ?_
    refine va_put (D := G.1) (ci := 1) (v := .int (((f_loseOldest st).1 14) + 1)) (ty := .int) (C := R_O) (T := T_O) (N := 5) hx hb hts in_O ty_O ty_O_ok n_O hown h0.1 hw.1 hw.2.1 hw.2.2 4 rfl rfl 3 (by decide) (hg (.fieldLink R_O 19 "SecureEntry$Log" "size" "I") (by decide +kernel)) (fun _ h9 => h9) rfl (by decide +kernel) rfl rfl (Nat.le_of_ble_eq_true rfl) d_O_write_50 (fun H locs hP hD hS => ?_)
    have hw : z_wl G (wC ad G st ++ wr) s (wC ad G (sS (sA (sA (sA (f_loseOldest st) 2 (upd ((f_loseOldest st).2.1 2) ((f_loseOldest st).1 14).toNatClampNeg p1)) 3 (upd ((f_loseOldest st).2.1 3) ((f_loseOldest st).1 14).toNatClampNeg p2)) 4 (upd ((f_loseOldest st).2.1 4) ((f_loseOldest st).1 14).toNatClampNeg p3)) 14 (((f_loseOldest st).1 14) + 1)) ++ wr) H locs := ⟨hP, hD, hS⟩
    exact z_vret (wf := fun _ : Unit => (wC ad G (f_write st p1 p2 p3) ++ wr)) (u := ()) hx hb hr hlocks h0 (by rw [f_write, if_neg c_6]; exact hw) trivial (Nat.le_of_ble_eq_true rfl) (Nat.le_of_ble_eq_true rfl) d_O_write_53
end CON
