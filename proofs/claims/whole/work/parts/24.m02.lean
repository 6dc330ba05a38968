section MC
set_option maxHeartbeats 4000000 in
set_option maxRecDepth 100000 in
theorem c_M_become (l : Launch) (G : gG) (bd : Nat → Nat) (st : MS) (wr : va_W) (sz : Nat) (p1 : Int32)  : Met l y_M_become w_M_become { frames := 0, cells := 0, slots := 0, locals := 0 } (va_Pc [.ref (bd 0), .int p1] (z_pre G (wM bd G st ++ wr) sz)) (z_Qv0 G (wM bd G st ++ wr) sz (wM bd G (m_become st p1) ++ wr)) 0 0 (va_A (wM bd G st ++ wr) sz) := by
  refine Met.ofW (cc := b_M_become) (maxL := 2) (ret := none) (by decide) rfl ?_
  intro p e s m args below meth c s₁ B hml hv
  obtain ⟨rfl, hsz, hP, hK, hD0, ham⟩ := hv
  subst hsz
  have hx := B.exec
  have hb := B.bytes
  have hr := B.returns
  have hts : ∀ w ∈ goT, w.before _ s = true := fun w h => atoms_spec (ws := w_M_become) B.pre w (List.mem_cons_of_mem _ h)
  have hg : ∀ w, goB w = true → w.before _ s = true := fun w h => hts w (goI h)
  have hown : s.vm.findClass R_M = some m.cls := findClass_of_methodNamed B.named
  have hlocks := B.notSynchronized
  have h0 : z_st G (wM bd G st ++ wr) s := ⟨hK, ham⟩
  have hw : z_wl G (wM bd G st ++ wr) s (wM bd G st ++ wr) s.heap [] := z_0 hP hD0
  have hl := lv_entry ([.ref (bd 0), .int p1]) (n := 2) (Nat.le_of_ble_eq_true rfl)
  rw [lg_entry_eq]
  generalize (lg_sl ([.ref (bd 0), .int p1]) ++ List.replicate (2 - (lg_sl ([.ref (bd 0), .int p1])).length) Slot.unset).toArray = ls at hl ⊢
  have hl : lv_has ls 2 [(0, .ref (bd 0)), (1, .int p1)] := hl
  refine lv_aload_n hx hb d_M_become_0 rfl (lv_at hl 0 rfl) ?_
  refine lv_iload_n hx hb d_M_become_1 rfl (lv_at hl 1 rfl) ?_
  refine va_put (D := G.1) (ci := 3) (v := .int p1) (ty := .int) (C := R_M) (T := T_M) (N := 25) hx hb hts in_M ty_M ty_M_ok n_M hown h0.1 hw.1 hw.2.1 hw.2.2 0 rfl rfl 14 (by decide) (hg (.fieldLink R_M 113 "SecureEntryModel" "user" "I") (by decide +kernel)) (fun _ h9 => h9) rfl (by decide +kernel) rfl rfl (Nat.le_of_ble_eq_true rfl) d_M_become_2 (fun H locs hP hD hS => ?_)
  have hw : z_wl G (wM bd G st ++ wr) s (wM bd G (mS st 14 p1) ++ wr) H locs := ⟨hP, hD, hS⟩
  refine lv_aload_n hx hb d_M_become_5 rfl (lv_at hl 0 rfl) ?_
  refine lv_aload_n hx hb d_M_become_6 rfl (lv_at hl 0 rfl) ?_
  refine va_get (D := G.1) (ci := 3) (v := .int (st.1 1)) (C := R_M) (T := T_M) (N := 25) hx hb hts in_M hown h0.1 hw.1 0 rfl rfl 1 (by decide) (hg (.fieldLink R_M 93 "SecureEntryModel" "time" "I") (by decide +kernel)) (fun _ h9 => h9) rfl d_M_become_7 ?_
  refine va_put (D := G.1) (ci := 3) (v := .int (st.1 1)) (ty := .int) (C := R_M) (T := T_M) (N := 25) hx hb hts in_M ty_M ty_M_ok n_M hown h0.1 hw.1 hw.2.1 hw.2.2 0 rfl rfl 15 (by decide) (hg (.fieldLink R_M 119 "SecureEntryModel" "since" "I") (by decide +kernel)) (fun _ h9 => h9) rfl (by decide +kernel) rfl rfl (Nat.le_of_ble_eq_true rfl) d_M_become_10 (fun H locs hP hD hS => ?_)
  have hw : z_wl G (wM bd G st ++ wr) s (wM bd G (mS (mS st 14 p1) 15 (st.1 1)) ++ wr) H locs := ⟨hP, hD, hS⟩
  exact z_vret (wf := fun _ : Unit => (wM bd G (m_become st p1) ++ wr)) (u := ()) hx hb hr hlocks h0 (by rw [m_become]; exact hw) trivial (Nat.le_of_ble_eq_true rfl) (Nat.le_of_ble_eq_true rfl) d_M_become_13
set_option maxHeartbeats 4000000 in
set_option maxRecDepth 100000 in
theorem c_M_unlock (l : Launch) (G : gG) (bd : Nat → Nat) (st : MS) (wr : va_W) (sz : Nat)   : Met l y_M_unlock w_M_unlock { frames := 0, cells := 0, slots := 0, locals := 0 } (va_Pc [.ref (bd 0)] (z_pre G (wM bd G st ++ wr) sz)) (z_Qv0 G (wM bd G st ++ wr) sz (wM bd G (m_unlock st) ++ wr)) 0 0 (va_A (wM bd G st ++ wr) sz) := by
  refine Met.ofW (cc := b_M_unlock) (maxL := 1) (ret := none) (by decide) rfl ?_
  intro p e s m args below meth c s₁ B hml hv
  obtain ⟨rfl, hsz, hP, hK, hD0, ham⟩ := hv
  subst hsz
  have hx := B.exec
  have hb := B.bytes
  have hr := B.returns
  have hts : ∀ w ∈ goT, w.before _ s = true := fun w h => atoms_spec (ws := w_M_unlock) B.pre w (List.mem_cons_of_mem _ h)
  have hg : ∀ w, goB w = true → w.before _ s = true := fun w h => hts w (goI h)
  have hown : s.vm.findClass R_M = some m.cls := findClass_of_methodNamed B.named
  have hlocks := B.notSynchronized
  have h0 : z_st G (wM bd G st ++ wr) s := ⟨hK, ham⟩
  have hw : z_wl G (wM bd G st ++ wr) s (wM bd G st ++ wr) s.heap [] := z_0 hP hD0
  have hl := lv_entry ([.ref (bd 0)]) (n := 1) (Nat.le_of_ble_eq_true rfl)
  rw [lg_entry_eq]
  generalize (lg_sl ([.ref (bd 0)]) ++ List.replicate (1 - (lg_sl ([.ref (bd 0)])).length) Slot.unset).toArray = ls at hl ⊢
  have hl : lv_has ls 1 [(0, .ref (bd 0))] := hl
  refine lv_aload_n hx hb d_M_unlock_0 rfl (lv_at hl 0 rfl) ?_
  refine lv_aload_n hx hb d_M_unlock_1 rfl (lv_at hl 0 rfl) ?_
  refine va_get (D := G.1) (ci := 3) (v := .int (st.1 1)) (C := R_M) (T := T_M) (N := 25) hx hb hts in_M hown h0.1 hw.1 0 rfl rfl 1 (by decide) (hg (.fieldLink R_M 93 "SecureEntryModel" "time" "I") (by decide +kernel)) (fun _ h9 => h9) rfl d_M_unlock_2 ?_
  refine lv_aload_n hx hb d_M_unlock_5 rfl (lv_at hl 0 rfl) ?_
  refine va_get (D := G.1) (ci := 3) (v := .ref (bd 2)) (C := R_M) (T := T_M) (N := 25) hx hb hts in_M hown h0.1 hw.1 0 rfl rfl 2 (by decide) (hg (.fieldLink R_M 7 "SecureEntryModel" "config" "[I") (by decide +kernel)) (fun _ h9 => h9) rfl d_M_unlock_6 ?_
  refine lv_iconst (v := 0) hx hb d_M_unlock_9 (by decide) ?_
  refine va_iald (f := (st.2 2)) hx hb h0.1 hw.1 1 0 rfl rfl (show vp_in 0 6 by unfold vp_in; decide) d_M_unlock_10 ?_
  refine lv_iadd hx hb d_M_unlock_11 ?_
  refine va_put (D := G.1) (ci := 3) (v := .int ((st.1 1) + ((st.2 2) (0 : Int32).toNatClampNeg))) (ty := .int) (C := R_M) (T := T_M) (N := 25) hx hb hts in_M ty_M ty_M_ok n_M hown h0.1 hw.1 hw.2.1 hw.2.2 0 rfl rfl 17 (by decide) (hg (.fieldLink R_M 139 "SecureEntryModel" "until" "I") (by decide +kernel)) (fun _ h9 => h9) rfl (by decide +kernel) rfl rfl (Nat.le_of_ble_eq_true rfl) d_M_unlock_12 (fun H locs hP hD hS => ?_)
  have hw : z_wl G (wM bd G st ++ wr) s (wM bd G (mS st 17 ((st.1 1) + ((st.2 2) (0 : Int32).toNatClampNeg))) ++ wr) H locs := ⟨hP, hD, hS⟩
  refine lv_aload_n hx hb d_M_unlock_15 rfl (lv_at hl 0 rfl) ?_
  refine lv_aload_n hx hb d_M_unlock_16 rfl (lv_at hl 0 rfl) ?_
  refine va_get (D := G.1) (ci := 3) (v := .int ((st.1 1) + ((st.2 2) (0 : Int32).toNatClampNeg))) (C := R_M) (T := T_M) (N := 25) hx hb hts in_M hown h0.1 hw.1 0 rfl rfl 17 (by decide) (hg (.fieldLink R_M 139 "SecureEntryModel" "until" "I") (by decide +kernel)) (fun _ h9 => h9) rfl d_M_unlock_17 ?_
  refine lv_aload_n hx hb d_M_unlock_20 rfl (lv_at hl 0 rfl) ?_
  refine va_get (D := G.1) (ci := 3) (v := .ref (bd 2)) (C := R_M) (T := T_M) (N := 25) hx hb hts in_M hown h0.1 hw.1 0 rfl rfl 2 (by decide) (hg (.fieldLink R_M 7 "SecureEntryModel" "config" "[I") (by decide +kernel)) (fun _ h9 => h9) rfl d_M_unlock_21 ?_
  refine lv_iconst (v := 1) hx hb d_M_unlock_24 (by decide) ?_
  refine va_iald (f := (st.2 2)) hx hb h0.1 hw.1 1 0 rfl rfl (show vp_in 1 6 by unfold vp_in; decide) d_M_unlock_25 ?_
  refine lv_iadd hx hb d_M_unlock_26 ?_
  refine va_put (D := G.1) (ci := 3) (v := .int (((st.1 1) + ((st.2 2) (0 : Int32).toNatClampNeg)) + ((st.2 2) (1 : Int32).toNatClampNeg))) (ty := .int) (C := R_M) (T := T_M) (N := 25) hx hb hts in_M ty_M ty_M_ok n_M hown h0.1 hw.1 hw.2.1 hw.2.2 0 rfl rfl 19 (by decide) (hg (.fieldLink R_M 142 "SecureEntryModel" "alarmTime" "I") (by decide +kernel)) (fun _ h9 => h9) rfl (by decide +kernel) rfl rfl (Nat.le_of_ble_eq_true rfl) d_M_unlock_27 (fun H locs hP hD hS => ?_)
  have hw : z_wl G (wM bd G st ++ wr) s (wM bd G (mS (mS st 17 ((st.1 1) + ((st.2 2) (0 : Int32).toNatClampNeg))) 19 (((st.1 1) + ((st.2 2) (0 : Int32).toNatClampNeg)) + ((st.2 2) (1 : Int32).toNatClampNeg))) ++ wr) H locs := ⟨hP, hD, hS⟩
  exact z_vret (wf := fun _ : Unit => (wM bd G (m_unlock st) ++ wr)) (u := ()) hx hb hr hlocks h0 (by rw [m_unlock]; exact hw) trivial (Nat.le_of_ble_eq_true rfl) (Nat.le_of_ble_eq_true rfl) d_M_unlock_30
set_option maxHeartbeats 4000000 in
set_option maxRecDepth 100000 in
theorem c_M_refusal (l : Launch) (G : gG) (bd : Nat → Nat) (st : MS) (wr : va_W) (sz : Nat) (p1 : Int32)  : Met l y_M_refusal w_M_refusal { frames := 0, cells := 0, slots := 0, locals := 0 } (va_Pc [.ref (bd 0), .int p1] (z_pre G (wM bd G st ++ wr) sz)) (z_Qi0 G (wM bd G st ++ wr) sz (wM bd G st ++ wr) (m_refusal st p1)) 0 0 (va_A (wM bd G st ++ wr) sz) := by
  refine Met.ofW (cc := b_M_refusal) (maxL := 2) (ret := (some .int)) (by decide) rfl ?_
  intro p e s m args below meth c s₁ B hml hv
  obtain ⟨rfl, hsz, hP, hK, hD0, ham⟩ := hv
  subst hsz
  have hx := B.exec
  have hb := B.bytes
  have hr := B.returns
  have hts : ∀ w ∈ goT, w.before _ s = true := fun w h => atoms_spec (ws := w_M_refusal) B.pre w (List.mem_cons_of_mem _ h)
  have hg : ∀ w, goB w = true → w.before _ s = true := fun w h => hts w (goI h)
  have hown : s.vm.findClass R_M = some m.cls := findClass_of_methodNamed B.named
  have hlocks := B.notSynchronized
  have h0 : z_st G (wM bd G st ++ wr) s := ⟨hK, ham⟩
  have hw : z_wl G (wM bd G st ++ wr) s (wM bd G st ++ wr) s.heap [] := z_0 hP hD0
  have hl := lv_entry ([.ref (bd 0), .int p1]) (n := 2) (Nat.le_of_ble_eq_true rfl)
  rw [lg_entry_eq]
  generalize (lg_sl ([.ref (bd 0), .int p1]) ++ List.replicate (2 - (lg_sl ([.ref (bd 0), .int p1])).length) Slot.unset).toArray = ls at hl ⊢
  have hl : lv_has ls 2 [(0, .ref (bd 0)), (1, .int p1)] := hl
  refine lv_aload_n hx hb d_M_refusal_0 rfl (lv_at hl 0 rfl) ?_
  refine va_get (D := G.1) (ci := 3) (v := .int (st.1 13)) (C := R_M) (T := T_M) (N := 25) hx hb hts in_M hown h0.1 hw.1 0 rfl rfl 13 (by decide) (hg (.fieldLink R_M 99 "SecureEntryModel" "up" "Z") (by decide +kernel)) (fun _ h9 => h9) rfl d_M_refusal_1 ?_
  refine lv_if_eq (tgt := 14) hx hb d_M_refusal_4 (by decide) (fun c_4 => ?_) (fun c_4 => ?_)
  · refine lv_iconst (v := 1) hx hb d_M_refusal_14 (by decide) ?_
    refine lv_goto (tgt := 31) hx hb d_M_refusal_15 (by decide) ?_
    exact z_iret (wf := fun _ : Unit => (wM bd G st ++ wr)) (u := ()) hx hb hr hlocks h0 hw rfl (by rw [m_refusal, if_pos c_4]) (Nat.le_of_ble_eq_true rfl) (Nat.le_of_ble_eq_true rfl) d_M_refusal_31
  · refine lv_aload_n hx hb d_M_refusal_7 rfl (lv_at hl 0 rfl) ?_
    refine va_get (D := G.1) (ci := 3) (v := .int (st.1 16)) (C := R_M) (T := T_M) (N := 25) hx hb hts in_M hown h0.1 hw.1 0 rfl rfl 16 (by decide) (hg (.fieldLink R_M 116 "SecureEntryModel" "role" "I") (by decide +kernel)) (fun _ h9 => h9) rfl d_M_refusal_8 ?_
    refine lv_if_ne (tgt := 18) hx hb d_M_refusal_11 (by decide) (fun c_11 => ?_) (fun c_11 => ?_)
    · refine lv_aload_n hx hb d_M_refusal_18 rfl (lv_at hl 0 rfl) ?_
      refine va_get (D := G.1) (ci := 3) (v := .int (st.1 16)) (C := R_M) (T := T_M) (N := 25) hx hb hts in_M hown h0.1 hw.1 0 rfl rfl 16 (by decide) (hg (.fieldLink R_M 116 "SecureEntryModel" "role" "I") (by decide +kernel)) (fun _ h9 => h9) rfl d_M_refusal_19 ?_
      refine lv_iload_n hx hb d_M_refusal_22 rfl (lv_at hl 1 rfl) ?_
      refine lv_icmp_eq (tgt := 30) hx hb d_M_refusal_23 (by decide) (fun c_23 => ?_) (fun c_23 => ?_)
      · refine lv_iconst (v := 0) hx hb d_M_refusal_30 (by decide) ?_
        exact z_iret (wf := fun _ : Unit => (wM bd G st ++ wr)) (u := ()) hx hb hr hlocks h0 hw rfl (by rw [m_refusal, if_neg c_4, if_neg c_11, if_pos c_23]) (Nat.le_of_ble_eq_true rfl) (Nat.le_of_ble_eq_true rfl) d_M_refusal_31
      · refine lv_iconst (v := 2) hx hb d_M_refusal_26 (by decide) ?_
        refine lv_goto (tgt := 31) hx hb d_M_refusal_27 (by decide) ?_
        exact z_iret (wf := fun _ : Unit => (wM bd G st ++ wr)) (u := ()) hx hb hr hlocks h0 hw rfl (by rw [m_refusal, if_neg c_4, if_neg c_11, if_neg c_23]) (Nat.le_of_ble_eq_true rfl) (Nat.le_of_ble_eq_true rfl) d_M_refusal_31
    · refine lv_iconst (v := 1) hx hb d_M_refusal_14 (by decide) ?_
      refine lv_goto (tgt := 31) hx hb d_M_refusal_15 (by decide) ?_
      exact z_iret (wf := fun _ : Unit => (wM bd G st ++ wr)) (u := ()) hx hb hr hlocks h0 hw rfl (by rw [m_refusal, if_neg c_4, if_pos c_11]) (Nat.le_of_ble_eq_true rfl) (Nat.le_of_ble_eq_true rfl) d_M_refusal_31

end MC
