section CON
set_option maxHeartbeats 4000000 in
set_option maxRecDepth 100000 in
theorem c_S_writeAbout (l : Launch) (G : gG) (ad : Nat → Nat) (st : CS) (wr : va_W) (sz : Nat) (p1 : Int32) (p2 : Int32) (hI : InvC st) (hp1 : tokOK p1) : Met l y_S_writeAbout w_S_writeAbout { frames := 3, cells := 0, slots := 0, locals := 83 } (va_Pc [.ref (ad 0), .int p1, .int p2] (z_pre G (wC ad G st ++ wr) sz)) (z_Qv0 G (wC ad G st ++ wr) sz (wC ad G (f_writeAbout st p1 p2) ++ wr)) 0 0 (va_A (wC ad G st ++ wr) sz) := by
  refine Met.ofW (cc := b_S_writeAbout) (maxL := 4) (ret := none) (by decide) rfl ?_
  intro p e s m args below meth c s₁ B hml hv
  obtain ⟨rfl, hsz, hP, hK, hD0, ham⟩ := hv
  subst hsz
  have hx := B.exec
  have hb := B.bytes
  have hr := B.returns
  have hts : ∀ w ∈ goT, w.before _ s = true := fun w h => atoms_spec (ws := w_S_writeAbout) B.pre w (List.mem_cons_of_mem _ h)
  have hg : ∀ w, goB w = true → w.before _ s = true := fun w h => hts w (goI h)
  have hown : s.vm.findClass R_S = some m.cls := findClass_of_methodNamed B.named
  have hlocks := B.notSynchronized
  have h0 : z_st G (wC ad G st ++ wr) s := ⟨hK, ham⟩
  have hw : z_wl G (wC ad G st ++ wr) s (wC ad G st ++ wr) s.heap [] := z_0 hP hD0
  have hl := lv_entry ([.ref (ad 0), .int p1, .int p2]) (n := 4) (Nat.le_of_ble_eq_true rfl)
  rw [lg_entry_eq]
  generalize (lg_sl ([.ref (ad 0), .int p1, .int p2]) ++ List.replicate (4 - (lg_sl ([.ref (ad 0), .int p1, .int p2])).length) Slot.unset).toArray = ls at hl ⊢
  have hl : lv_has ls 4 [(0, .ref (ad 0)), (1, .int p1), (2, .int p2)] := hl
  refine lv_aload_n hx hb d_S_writeAbout_0 rfl (lv_at hl 0 rfl) ?_
  refine lv_iload_n hx hb d_S_writeAbout_1 rfl (lv_at hl 1 rfl) ?_
  refine lv_iconst (v := 0) hx hb d_S_writeAbout_2 (by decide) ?_
  refine z_Vq0 (As := [.int p1, .int 0]) (v := (f_certificateOf st p1 0)) ⟨hx, hb, hml, hown, hts⟩ (c_S_certificateOf l G ad st wr _ p1 0 (by first | assumption | exact hI.2.2.2.1 | exact hI.2.2.2.2 | (unfold vp_in; decide) | exact Or.inr (by assumption) | exact cof_mem hI | (intro a h; cases h; assumption) | exact (hI.2.1 _ (by assumption)).1) (by first | assumption | exact hI.2.2.2.1 | exact hI.2.2.2.2 | (unfold vp_in; decide) | exact Or.inr (by assumption) | exact cof_mem hI | (intro a h; cases h; assumption) | exact (hI.2.1 _ (by assumption)).1)) (cwV 2 hts gV_S_76 rfl rfl rfl (by decide +kernel) ⟨Nat.le_of_ble_eq_true rfl, Nat.le_of_ble_eq_true rfl⟩) h0 hw 0 rfl rfl rfl rfl hl.1 rfl (Nat.le_of_ble_eq_true rfl) d_S_writeAbout_3 ⟨Nat.le_of_ble_eq_true rfl, Nat.le_of_ble_eq_true rfl⟩ (fun H locs hw => ?_)
  refine z_astore_n (r := (f_certificateOf st p1 0)) (lv' := [(3, va_rf (f_certificateOf st p1 0)), (0, .ref (ad 0)), (1, .int p1), (2, .int p2)]) hx hb d_S_writeAbout_6 rfl hl (by decide) rfl (fun ls hl => ?_)
  refine lv_aload_n hx hb d_S_writeAbout_7 rfl (lv_at hl 1 rfl) ?_
  refine va_get (D := G.1) (ci := 2) (v := .ref (ad 4)) (C := R_S) (T := T_S) (N := 14) hx hb hts in_S hown h0.1 hw.1 0 rfl rfl 3 (by decide) (hg (.fieldLink R_S 33 "SecureEntry" "log" "LSecureEntry$Log;") (by decide +kernel)) (fun _ h9 => h9) rfl d_S_writeAbout_8 ?_
  refine lv_iload_n hx hb d_S_writeAbout_11 rfl (lv_at hl 3 rfl) ?_
  refine lv_aload_n hx hb d_S_writeAbout_12 rfl (lv_at hl 1 rfl) ?_
  refine va_get (D := G.1) (ci := 2) (v := .int (st.1 4)) (C := R_S) (T := T_S) (N := 14) hx hb hts in_S hown h0.1 hw.1 0 rfl rfl 4 (by decide) (hg (.fieldLink R_S 101 "SecureEntry" "time" "I") (by decide +kernel)) (fun _ h9 => h9) rfl d_S_writeAbout_13 ?_
  refine z_aload_n (r := (f_certificateOf st p1 0)) hx hb d_S_writeAbout_16 rfl (lv_at hl 0 rfl) ?_
  refine z_ifnonnull (r := (f_certificateOf st p1 0)) (tgt := 24) hx hb d_S_writeAbout_17 (by decide) (fun e_17 => ?_) (fun a_17 e_17 => ?_)
  · have hl : lv_has ls 4 [(3, .null), (0, .ref (ad 0)), (1, .int p1), (2, .int p2)] := by rw [e_17] at hl; exact hl
    refine lv_iconst (v := (-1)) hx hb d_S_writeAbout_20 (by decide) ?_
    refine lv_goto (tgt := 28) hx hb d_S_writeAbout_21 (by decide) ?_
    refine z_Vv0 (As := [.int p2, .int (st.1 4), .int (-1)]) (ws1 := (wC ad G (f_write st p2 (st.1 4) (-1)) ++ wr)) ⟨hx, hb, hml, hown, hts⟩ (c_O_write l G ad st wr _ p2 (st.1 4) (-1) (by first | assumption | exact hI.2.2.2.1 | exact hI.2.2.2.2 | (unfold vp_in; decide) | exact Or.inr (by assumption) | exact cof_mem hI | (intro a h; cases h; assumption) | exact (hI.2.1 _ (by assumption)).1)) (cwV 3 hts gV_S_104 rfl rfl rfl (by decide +kernel) ⟨Nat.le_of_ble_eq_true rfl, Nat.le_of_ble_eq_true rfl⟩) h0 hw 4 rfl rfl rfl rfl hl.1 rfl (Nat.le_of_ble_eq_true rfl) d_S_writeAbout_28 ⟨Nat.le_of_ble_eq_true rfl, Nat.le_of_ble_eq_true rfl⟩ (fun H locs hw => ?_)
    have hI : InvC (f_write st p2 (st.1 4) (-1)) := inv_f_write hI
    exact z_vret (wf := fun _ : Unit => (wC ad G (f_writeAbout st p1 p2) ++ wr)) (u := ()) hx hb hr hlocks h0 (by rw [f_writeAbout, e_17, oel_none]; exact hw) trivial (Nat.le_of_ble_eq_true rfl) (Nat.le_of_ble_eq_true rfl) d_S_writeAbout_31
  · have hl : lv_has ls 4 [(3, .ref a_17), (0, .ref (ad 0)), (1, .int p1), (2, .int p2)] := by rw [e_17] at hl; exact hl
    have hm_a_17 : a_17 ∈ st.2.2.2.1 := cof_mem hI _ e_17
    refine lv_aload_n hx hb d_S_writeAbout_24 rfl (lv_at hl 0 rfl) ?_
    obtain ⟨k_25, hk_25⟩ := z_pool (ad := ad) (G := G) (wr := wr) (st := st) hm_a_17
    refine va_get (D := G.1) (ci := 0) (v := .int (st.2.2.2.2 a_17 2)) (C := R_C) (T := T_C) (N := 7) hx hb hts in_C hown h0.1 hw.1 k_25 hk_25 rfl 2 (by decide) (hg (.fieldLink R_S 205 "SecureEntry$Certificate" "holder" "I") (by decide +kernel)) (fun _ h9 => h9) rfl d_S_writeAbout_25 ?_
    refine z_Vv0 (As := [.int p2, .int (st.1 4), .int (st.2.2.2.2 a_17 2)]) (ws1 := (wC ad G (f_write st p2 (st.1 4) (st.2.2.2.2 a_17 2)) ++ wr)) ⟨hx, hb, hml, hown, hts⟩ (c_O_write l G ad st wr _ p2 (st.1 4) (st.2.2.2.2 a_17 2) (by first | assumption | exact hI.2.2.2.1 | exact hI.2.2.2.2 | (unfold vp_in; decide) | exact Or.inr (by assumption) | exact cof_mem hI | (intro a h; cases h; assumption) | exact (hI.2.1 _ (by assumption)).1)) (cwV 3 hts gV_S_104 rfl rfl rfl (by decide +kernel) ⟨Nat.le_of_ble_eq_true rfl, Nat.le_of_ble_eq_true rfl⟩) h0 hw 4 rfl rfl rfl rfl hl.1 rfl (Nat.le_of_ble_eq_true rfl) d_S_writeAbout_28 ⟨Nat.le_of_ble_eq_true rfl, Nat.le_of_ble_eq_true rfl⟩ (fun H locs hw => ?_)
    have hI : InvC (f_write st p2 (st.1 4) (st.2.2.2.2 a_17 2)) := inv_f_write hI
    exact z_vret (wf := fun _ : Unit => (wC ad G (f_writeAbout st p1 p2) ++ wr)) (u := ()) hx hb hr hlocks h0 (by rw [f_writeAbout, e_17, oel_some]; exact hw) trivial (Nat.le_of_ble_eq_true rfl) (Nat.le_of_ble_eq_true rfl) d_S_writeAbout_31
set_option maxHeartbeats 4000000 in
set_option maxRecDepth 100000 in
theorem c_S_allowEntry (l : Launch) (G : gG) (ad : Nat → Nat) (st : CS) (wr : va_W) (sz : Nat)  (hI : InvC st) : Met l y_S_allowEntry w_S_allowEntry { frames := 4, cells := 0, slots := 0, locals := 106 } (va_Pc [.ref (ad 0)] (z_pre G (wC ad G st ++ wr) sz)) (z_Qv0 G (wC ad G st ++ wr) sz (wC ad G (f_allowEntry st) ++ wr)) 0 0 (va_A (wC ad G st ++ wr) sz) := by
  refine Met.ofW (cc := b_S_allowEntry) (maxL := 1) (ret := none) (by decide) rfl ?_
  intro p e s m args below meth c s₁ B hml hv
  obtain ⟨rfl, hsz, hP, hK, hD0, ham⟩ := hv
  subst hsz
  have hx := B.exec
  have hb := B.bytes
  have hr := B.returns
  have hts : ∀ w ∈ goT, w.before _ s = true := fun w h => atoms_spec (ws := w_S_allowEntry) B.pre w (List.mem_cons_of_mem _ h)
  have hg : ∀ w, goB w = true → w.before _ s = true := fun w h => hts w (goI h)
  have hown : s.vm.findClass R_S = some m.cls := findClass_of_methodNamed B.named
  have hlocks := B.notSynchronized
  have h0 : z_st G (wC ad G st ++ wr) s := ⟨hK, ham⟩
  have hw : z_wl G (wC ad G st ++ wr) s (wC ad G st ++ wr) s.heap [] := z_0 hP hD0
  have hl := lv_entry ([.ref (ad 0)]) (n := 1) (Nat.le_of_ble_eq_true rfl)
  rw [lg_entry_eq]
  generalize (lg_sl ([.ref (ad 0)]) ++ List.replicate (1 - (lg_sl ([.ref (ad 0)])).length) Slot.unset).toArray = ls at hl ⊢
  have hl : lv_has ls 1 [(0, .ref (ad 0))] := hl
  refine lv_aload_n hx hb d_S_allowEntry_0 rfl (lv_at hl 0 rfl) ?_
  refine lv_iconst (v := 2) hx hb d_S_allowEntry_1 (by decide) ?_
  refine z_Vv0 (As := [.int 2]) (ws1 := (wC ad G (f_becomeUserState st 2) ++ wr)) ⟨hx, hb, hml, hown, hts⟩ (c_S_becomeUserState l G ad st wr _ 2) (cwV 1 hts gV_S_98 rfl rfl rfl (by decide +kernel) ⟨Nat.le_of_ble_eq_true rfl, Nat.le_of_ble_eq_true rfl⟩) h0 hw 0 rfl rfl rfl rfl hl.1 rfl (Nat.le_of_ble_eq_true rfl) d_S_allowEntry_2 ⟨Nat.le_of_ble_eq_true rfl, Nat.le_of_ble_eq_true rfl⟩ (fun H locs hw => ?_)
  have hI : InvC (f_becomeUserState st 2) := inv_f_becomeUserState hI
  refine lv_aload_n hx hb d_S_allowEntry_5 rfl (lv_at hl 0 rfl) ?_
  refine lv_aload_n hx hb d_S_allowEntry_6 rfl (lv_at hl 0 rfl) ?_
  refine va_get (D := G.1) (ci := 2) (v := .int ((f_becomeUserState st 2).1 8)) (C := R_S) (T := T_S) (N := 14) hx hb hts in_S hown h0.1 hw.1 0 rfl rfl 8 (by decide) (hg (.fieldLink R_S 41 "SecureEntry" "outerToken" "I") (by decide +kernel)) (fun _ h9 => h9) rfl d_S_allowEntry_7 ?_
  refine lv_bipush (v := 7) hx hb d_S_allowEntry_10 (by decide) ?_
  refine z_Vv0 (As := [.int ((f_becomeUserState st 2).1 8), .int 7]) (ws1 := (wC ad G (f_writeAbout (f_becomeUserState st 2) ((f_becomeUserState st 2).1 8) 7) ++ wr)) ⟨hx, hb, hml, hown, hts⟩ (c_S_writeAbout l G ad (f_becomeUserState st 2) wr _ ((f_becomeUserState st 2).1 8) 7 (by first | assumption | exact hI.2.2.2.1 | exact hI.2.2.2.2 | (unfold vp_in; decide) | exact Or.inr (by assumption) | exact cof_mem hI | (intro a h; cases h; assumption) | exact (hI.2.1 _ (by assumption)).1) (by first | assumption | exact hI.2.2.2.1 | exact hI.2.2.2.2 | (unfold vp_in; decide) | exact Or.inr (by assumption) | exact cof_mem hI | (intro a h; cases h; assumption) | exact (hI.2.1 _ (by assumption)).1)) (cwV 2 hts gV_S_114 rfl rfl rfl (by decide +kernel) ⟨Nat.le_of_ble_eq_true rfl, Nat.le_of_ble_eq_true rfl⟩) h0 hw 0 rfl rfl rfl rfl hl.1 rfl (Nat.le_of_ble_eq_true rfl) d_S_allowEntry_12 ⟨Nat.le_of_ble_eq_true rfl, Nat.le_of_ble_eq_true rfl⟩ (fun H locs hw => ?_)
  have hI : InvC (f_writeAbout (f_becomeUserState st 2) ((f_becomeUserState st 2).1 8) 7) := inv_f_writeAbout hI
  exact z_vret (wf := fun _ : Unit => (wC ad G (f_allowEntry st) ++ wr)) (u := ()) hx hb hr hlocks h0 (by rw [f_allowEntry]; exact hw) trivial (Nat.le_of_ble_eq_true rfl) (Nat.le_of_ble_eq_true rfl) d_S_allowEntry_15
set_option maxHeartbeats 4000000 in
set_option maxRecDepth 100000 in
theorem c_S_turnAway (l : Launch) (G : gG) (ad : Nat → Nat) (st : CS) (wr : va_W) (sz : Nat) (p1 : Int32) (hI : InvC st) : Met l y_S_turnAway w_S_turnAway { frames := 4, cells := 0, slots := 0, locals := 106 } (va_Pc [.ref (ad 0), .int p1] (z_pre G (wC ad G st ++ wr) sz)) (z_Qv0 G (wC ad G st ++ wr) sz (wC ad G (f_turnAway st p1) ++ wr)) 0 0 (va_A (wC ad G st ++ wr) sz) := by
  refine Met.ofW (cc := b_S_turnAway) (maxL := 2) (ret := none) (by decide) rfl ?_
  intro p e s m args below meth c s₁ B hml hv
  obtain ⟨rfl, hsz, hP, hK, hD0, ham⟩ := hv
  subst hsz
  have hx := B.exec
  have hb := B.bytes
  have hr := B.returns
  have hts : ∀ w ∈ goT, w.before _ s = true := fun w h => atoms_spec (ws := w_S_turnAway) B.pre w (List.mem_cons_of_mem _ h)
  have hg : ∀ w, goB w = true → w.before _ s = true := fun w h => hts w (goI h)
  have hown : s.vm.findClass R_S = some m.cls := findClass_of_methodNamed B.named
  have hlocks := B.notSynchronized
  have h0 : z_st G (wC ad G st ++ wr) s := ⟨hK, ham⟩
  have hw : z_wl G (wC ad G st ++ wr) s (wC ad G st ++ wr) s.heap [] := z_0 hP hD0
  have hl := lv_entry ([.ref (ad 0), .int p1]) (n := 2) (Nat.le_of_ble_eq_true rfl)
  rw [lg_entry_eq]
  generalize (lg_sl ([.ref (ad 0), .int p1]) ++ List.replicate (2 - (lg_sl ([.ref (ad 0), .int p1])).length) Slot.unset).toArray = ls at hl ⊢
  have hl : lv_has ls 2 [(0, .ref (ad 0)), (1, .int p1)] := hl
  refine lv_aload_n hx hb d_S_turnAway_0 rfl (lv_at hl 0 rfl) ?_
  refine lv_iconst (v := 3) hx hb d_S_turnAway_1 (by decide) ?_
  refine z_Vv0 (As := [.int 3]) (ws1 := (wC ad G (f_becomeUserState st 3) ++ wr)) ⟨hx, hb, hml, hown, hts⟩ (c_S_becomeUserState l G ad st wr _ 3) (cwV 1 hts gV_S_98 rfl rfl rfl (by decide +kernel) ⟨Nat.le_of_ble_eq_true rfl, Nat.le_of_ble_eq_true rfl⟩) h0 hw 0 rfl rfl rfl rfl hl.1 rfl (Nat.le_of_ble_eq_true rfl) d_S_turnAway_2 ⟨Nat.le_of_ble_eq_true rfl, Nat.le_of_ble_eq_true rfl⟩ (fun H locs hw => ?_)
  have hI : InvC (f_becomeUserState st 3) := inv_f_becomeUserState hI
  refine lv_aload_n hx hb d_S_turnAway_5 rfl (lv_at hl 0 rfl) ?_
  refine lv_aload_n hx hb d_S_turnAway_6 rfl (lv_at hl 0 rfl) ?_
  refine va_get (D := G.1) (ci := 2) (v := .int ((f_becomeUserState st 3).1 8)) (C := R_S) (T := T_S) (N := 14) hx hb hts in_S hown h0.1 hw.1 0 rfl rfl 8 (by decide) (hg (.fieldLink R_S 41 "SecureEntry" "outerToken" "I") (by decide +kernel)) (fun _ h9 => h9) rfl d_S_turnAway_7 ?_
  refine lv_iload_n hx hb d_S_turnAway_10 rfl (lv_at hl 1 rfl) ?_
  refine z_Vv0 (As := [.int ((f_becomeUserState st 3).1 8), .int p1]) (ws1 := (wC ad G (f_writeAbout (f_becomeUserState st 3) ((f_becomeUserState st 3).1 8) p1) ++ wr)) ⟨hx, hb, hml, hown, hts⟩ (c_S_writeAbout l G ad (f_becomeUserState st 3) wr _ ((f_becomeUserState st 3).1 8) p1 (by first | assumption | exact hI.2.2.2.1 | exact hI.2.2.2.2 | (unfold vp_in; decide) | exact Or.inr (by assumption) | exact cof_mem hI | (intro a h; cases h; assumption) | exact (hI.2.1 _ (by assumption)).1) (by first | assumption | exact hI.2.2.2.1 | exact hI.2.2.2.2 | (unfold vp_in; decide) | exact Or.inr (by assumption) | exact cof_mem hI | (intro a h; cases h; assumption) | exact (hI.2.1 _ (by assumption)).1)) (cwV 2 hts gV_S_114 rfl rfl rfl (by decide +kernel) ⟨Nat.le_of_ble_eq_true rfl, Nat.le_of_ble_eq_true rfl⟩) h0 hw 0 rfl rfl rfl rfl hl.1 rfl (Nat.le_of_ble_eq_true rfl) d_S_turnAway_11 ⟨Nat.le_of_ble_eq_true rfl, Nat.le_of_ble_eq_true rfl⟩ (fun H locs hw => ?_)
  have hI : InvC (f_writeAbout (f_becomeUserState st 3) ((f_becomeUserState st 3).1 8) p1) := inv_f_writeAbout hI
  exact z_vret (wf := fun _ : Unit => (wC ad G (f_turnAway st p1) ++ wr)) (u := ()) hx hb hr hlocks h0 (by rw [f_turnAway]; exact hw) trivial (Nat.le_of_ble_eq_true rfl) (Nat.le_of_ble_eq_true rfl) d_S_turnAway_14
set_option maxHeartbeats 4000000 in
set_option maxRecDepth 100000 in
theorem c_S_dismissAdministrator (l : Launch) (G : gG) (ad : Nat → Nat) (st : CS) (wr : va_W) (sz : Nat)  (hI : InvC st) : Met l y_S_dismissAdministrator w_S_dismissAdministrator { frames := 4, cells := 0, slots := 0, locals := 106 } (va_Pc [.ref (ad 0)] (z_pre G (wC ad G st ++ wr) sz)) (z_Qv0 G (wC ad G st ++ wr) sz (wC ad G (f_dismissAdministrator st) ++ wr)) 0 0 (va_A (wC ad G st ++ wr) sz) := by
  refine Met.ofW (cc := b_S_dismissAdministrator) (maxL := 1) (ret := none) (by decide) rfl ?_
  intro p e s m args below meth c s₁ B hml hv
  obtain ⟨rfl, hsz, hP, hK, hD0, ham⟩ := hv
  subst hsz
  have hx := B.exec
  have hb := B.bytes
  have hr := B.returns
  have hts : ∀ w ∈ goT, w.before _ s = true := fun w h => atoms_spec (ws := w_S_dismissAdministrator) B.pre w (List.mem_cons_of_mem _ h)
  have hg : ∀ w, goB w = true → w.before _ s = true := fun w h => hts w (goI h)
  have hown : s.vm.findClass R_S = some m.cls := findClass_of_methodNamed B.named
  have hlocks := B.notSynchronized
  have h0 : z_st G (wC ad G st ++ wr) s := ⟨hK, ham⟩
  have hw : z_wl G (wC ad G st ++ wr) s (wC ad G st ++ wr) s.heap [] := z_0 hP hD0
  have hl := lv_entry ([.ref (ad 0)]) (n := 1) (Nat.le_of_ble_eq_true rfl)
  rw [lg_entry_eq]
  generalize (lg_sl ([.ref (ad 0)]) ++ List.replicate (1 - (lg_sl ([.ref (ad 0)])).length) Slot.unset).toArray = ls at hl ⊢
  have hl : lv_has ls 1 [(0, .ref (ad 0))] := hl
  refine lv_aload_n hx hb d_S_dismissAdministrator_0 rfl (lv_at hl 0 rfl) ?_
  refine lv_iconst (v := 0) hx hb d_S_dismissAdministrator_1 (by decide) ?_
  refine va_put (D := G.1) (ci := 2) (v := .int 0) (ty := .int) (C := R_S) (T := T_S) (N := 14) hx hb hts in_S ty_S ty_S_ok n_S hown h0.1 hw.1 hw.2.1 hw.2.2 0 rfl rfl 10 (by decide) (hg (.fieldLink R_S 47 "SecureEntry" "administratorRole" "I") (by decide +kernel)) (fun _ h9 => h9) rfl (by decide +kernel) rfl rfl (Nat.le_of_ble_eq_true rfl) d_S_dismissAdministrator_2 (fun H locs hP hD hS => ?_)
  have hI : InvC (sS st 10 0) := inv_sS hI (by decide)
  have hw : z_wl G (wC ad G st ++ wr) s (wC ad G (sS st 10 0) ++ wr) H locs := ⟨hP, hD, hS⟩
  refine lv_aload_n hx hb d_S_dismissAdministrator_5 rfl (lv_at hl 0 rfl) ?_
  refine lv_aload_n hx hb d_S_dismissAdministrator_6 rfl (lv_at hl 0 rfl) ?_
  refine va_get (D := G.1) (ci := 2) (v := .int (st.1 9)) (C := R_S) (T := T_S) (N := 14) hx hb hts in_S hown h0.1 hw.1 0 rfl rfl 9 (by decide) (hg (.fieldLink R_S 44 "SecureEntry" "innerToken" "I") (by decide +kernel)) (fun _ h9 => h9) rfl d_S_dismissAdministrator_7 ?_
  refine lv_bipush (v := 11) hx hb d_S_dismissAdministrator_10 (by decide) ?_
  refine z_Vv0 (As := [.int (st.1 9), .int 11]) (ws1 := (wC ad G (f_writeAbout (sS st 10 0) (st.1 9) 11) ++ wr)) ⟨hx, hb, hml, hown, hts⟩ (c_S_writeAbout l G ad (sS st 10 0) wr _ (st.1 9) 11 (by first | assumption | exact hI.2.2.2.1 | exact hI.2.2.2.2 | (unfold vp_in; decide) | exact Or.inr (by assumption) | exact cof_mem hI | (intro a h; cases h; assumption) | exact (hI.2.1 _ (by assumption)).1) (by first | assumption | exact hI.2.2.2.1 | exact hI.2.2.2.2 | (unfold vp_in; decide) | exact Or.inr (by assumption) | exact cof_mem hI | (intro a h; cases h; assumption) | exact (hI.2.1 _ (by assumption)).1)) (cwV 2 hts gV_S_114 rfl rfl rfl (by decide +kernel) ⟨Nat.le_of_ble_eq_true rfl, Nat.le_of_ble_eq_true rfl⟩) h0 hw 0 rfl rfl rfl rfl hl.1 rfl (Nat.le_of_ble_eq_true rfl) d_S_dismissAdministrator_12 ⟨Nat.le_of_ble_eq_true rfl, Nat.le_of_ble_eq_true rfl⟩ (fun H locs hw => ?_)
  have hI : InvC (f_writeAbout (sS st 10 0) (st.1 9) 11) := inv_f_writeAbout hI
  exact z_vret (wf := fun _ : Unit => (wC ad G (f_dismissAdministrator st) ++ wr)) (u := ()) hx hb hr hlocks h0 (by rw [f_dismissAdministrator]; exact hw) trivial (Nat.le_of_ble_eq_true rfl) (Nat.le_of_ble_eq_true rfl) d_S_dismissAdministrator_15
set_option maxHeartbeats 4000000 in
set_option maxRecDepth 100000 in
theorem c_S_endWaitingInTime (l : Launch) (G : gG) (ad : Nat → Nat) (st : CS) (wr : va_W) (sz : Nat)  (hI : InvC st) : Met l y_S_endWaitingInTime w_S_endWaitingInTime { frames := 5, cells := 0, slots := 0, locals := 127 } (va_Pc [.ref (ad 0)] (z_pre G (wC ad G st ++ wr) sz)) (z_Qv0 G (wC ad G st ++ wr) sz (wC ad G (f_endWaitingInTime st) ++ wr)) 0 0 (va_A (wC ad G st ++ wr) sz) := by
  refine Met.ofW (cc := b_S_endWaitingInTime) (maxL := 2) (ret := none) (by decide) rfl ?_
  intro p e s m args below meth c s₁ B hml hv
  obtain ⟨rfl, hsz, hP, hK, hD0, ham⟩ := hv
  subst hsz
  have hx := B.exec
  have hb := B.bytes
  have hr := B.returns
  have hts : ∀ w ∈ goT, w.before _ s = true := fun w h => atoms_spec (ws := w_S_endWaitingInTime) B.pre w (List.mem_cons_of_mem _ h)
  have hg : ∀ w, goB w = true → w.before _ s = true := fun w h => hts w (goI h)
  have hown : s.vm.findClass R_S = some m.cls := findClass_of_methodNamed B.named
  have hlocks := B.notSynchronized
  have h0 : z_st G (wC ad G st ++ wr) s := ⟨hK, ham⟩
  have hw : z_wl G (wC ad G st ++ wr) s (wC ad G st ++ wr) s.heap [] := z_0 hP hD0
  have hl := lv_entry ([.ref (ad 0)]) (n := 2) (Nat.le_of_ble_eq_true rfl)
  rw [lg_entry_eq]
  generalize (lg_sl ([.ref (ad 0)]) ++ List.replicate (2 - (lg_sl ([.ref (ad 0)])).length) Slot.unset).toArray = ls at hl ⊢
  have hl : lv_has ls 2 [(0, .ref (ad 0))] := hl
  refine lv_aload_n hx hb d_S_endWaitingInTime_0 rfl (lv_at hl 0 rfl) ?_
  refine va_get (D := G.1) (ci := 2) (v := .int (st.1 6)) (C := R_S) (T := T_S) (N := 14) hx hb hts in_S hown h0.1 hw.1 0 rfl rfl 6 (by decide) (hg (.fieldLink R_S 37 "SecureEntry" "userState" "I") (by decide +kernel)) (fun _ h9 => h9) rfl d_S_endWaitingInTime_1 ?_
  refine lv_iconst (v := 1) hx hb d_S_endWaitingInTime_4 (by decide) ?_
  refine lv_icmp_eq (tgt := 16) hx hb d_S_endWaitingInTime_5 (by decide) (fun c_5 => ?_) (fun c_5 => ?_)
  · refine lv_iconst (v := 1) hx hb d_S_endWaitingInTime_16 (by decide) ?_
    refine lv_goto (tgt := 21) hx hb d_S_endWaitingInTime_17 (by decide) ?_
    refine lv_istore_n (lv' := [(1, .int 1), (0, .ref (ad 0))]) hx hb d_S_endWaitingInTime_21 rfl hl (by decide) rfl (fun ls hl => ?_)
    refine lv_iload_n hx hb d_S_endWaitingInTime_22 rfl (lv_at hl 0 rfl) ?_
    refine lv_if_eq (tgt := 50) hx hb d_S_endWaitingInTime_23 (by decide) (fun c_23 => ?_) (fun c_23 => ?_)
    · exact absurd c_23 (by decide)
    · refine lv_aload_n hx hb d_S_endWaitingInTime_26 rfl (lv_at hl 1 rfl) ?_
      refine va_get (D := G.1) (ci := 2) (v := .int (st.1 4)) (C := R_S) (T := T_S) (N := 14) hx hb hts in_S hown h0.1 hw.1 0 rfl rfl 4 (by decide) (hg (.fieldLink R_S 101 "SecureEntry" "time" "I") (by decide +kernel)) (fun _ h9 => h9) rfl d_S_endWaitingInTime_27 ?_
      refine lv_aload_n hx hb d_S_endWaitingInTime_30 rfl (lv_at hl 1 rfl) ?_
      refine va_get (D := G.1) (ci := 2) (v := .int (st.1 7)) (C := R_S) (T := T_S) (N := 14) hx hb hts in_S hown h0.1 hw.1 0 rfl rfl 7 (by decide) (hg (.fieldLink R_S 263 "SecureEntry" "userStateSince" "I") (by decide +kernel)) (fun _ h9 => h9) rfl d_S_endWaitingInTime_31 ?_
      refine lv_isub hx hb d_S_endWaitingInTime_34 ?_
      refine lv_aload_n hx hb d_S_endWaitingInTime_35 rfl (lv_at hl 1 rfl) ?_
      refine va_get (D := G.1) (ci := 2) (v := .ref (ad 1)) (C := R_S) (T := T_S) (N := 14) hx hb hts in_S hown h0.1 hw.1 0 rfl rfl 0 (by decide) (hg (.fieldLink R_S 18 "SecureEntry" "configuration" "[I") (by decide +kernel)) (fun _ h9 => h9) rfl d_S_endWaitingInTime_36 ?_
      refine lv_iconst (v := 2) hx hb d_S_endWaitingInTime_39 (by decide) ?_
      refine va_iald hx hb h0.1 hw.1 1 0 rfl rfl (show vp_in 2 6 by unfold vp_in; decide) d_S_endWaitingInTime_40 ?_
      refine lv_icmp_lt (tgt := 50) hx hb d_S_endWaitingInTime_41 (by decide) (fun c_41 => ?_) (fun c_41 => ?_)
      · exact z_vret (wf := fun _ : Unit => (wC ad G (f_endWaitingInTime st) ++ wr)) (u := ()) hx hb hr hlocks h0 (by rw [f_endWaitingInTime, if_pos c_5, if_pos c_41]; exact hw) trivial (Nat.le_of_ble_eq_true rfl) (Nat.le_of_ble_eq_true rfl) d_S_endWaitingInTime_50
      · refine lv_aload_n hx hb d_S_endWaitingInTime_44 rfl (lv_at hl 1 rfl) ?_
        refine lv_bipush (v := 6) hx hb d_S_endWaitingInTime_45 (by decide) ?_
        refine z_Vv0 (As := [.int 6]) (ws1 := (wC ad G (f_turnAway st 6) ++ wr)) ⟨hx, hb, hml, hown, hts⟩ (c_S_turnAway l G ad st wr _ 6 (by first | assumption | exact hI.2.2.2.1 | exact hI.2.2.2.2 | (unfold vp_in; decide) | exact Or.inr (by assumption) | exact cof_mem hI | (intro a h; cases h; assumption) | exact (hI.2.1 _ (by assumption)).1)) (cwV 1 hts gV_S_127 rfl rfl rfl (by decide +kernel) ⟨Nat.le_of_ble_eq_true rfl, Nat.le_of_ble_eq_true rfl⟩) h0 hw 0 rfl rfl rfl rfl hl.1 rfl (Nat.le_of_ble_eq_true rfl) d_S_endWaitingInTime_47 ⟨Nat.le_of_ble_eq_true rfl, Nat.le_of_ble_eq_true rfl⟩ (fun H locs hw => ?_)
        have hI : InvC (f_turnAway st 6) := inv_f_turnAway hI
        exact z_vret (wf := fun _ : Unit => (wC ad G (f_endWaitingInTime st) ++ wr)) (u := ()) hx hb hr hlocks h0 (by rw [f_endWaitingInTime, if_pos c_5, if_neg c_41]; exact hw) trivial (Nat.le_of_ble_eq_true rfl) (Nat.le_of_ble_eq_true rfl) d_S_endWaitingInTime_50
  · refine lv_aload_n hx hb d_S_endWaitingInTime_8 rfl (lv_at hl 0 rfl) ?_
    refine va_get (D := G.1) (ci := 2) (v := .int (st.1 6)) (C := R_S) (T := T_S) (N := 14) hx hb hts in_S hown h0.1 hw.1 0 rfl rfl 6 (by decide) (hg (.fieldLink R_S 37 "SecureEntry" "userState" "I") (by decide +kernel)) (fun _ h9 => h9) rfl d_S_endWaitingInTime_9 ?_
    refine lv_iconst (v := 2) hx hb d_S_endWaitingInTime_12 (by decide) ?_
    refine lv_icmp_ne (tgt := 20) hx hb d_S_endWaitingInTime_13 (by decide) (fun c_13 => ?_) (fun c_13 => ?_)
    · refine lv_iconst (v := 0) hx hb d_S_endWaitingInTime_20 (by decide) ?_
      refine lv_istore_n (lv' := [(1, .int 0), (0, .ref (ad 0))]) hx hb d_S_endWaitingInTime_21 rfl hl (by decide) rfl (fun ls hl => ?_)
      refine lv_iload_n hx hb d_S_endWaitingInTime_22 rfl (lv_at hl 0 rfl) ?_
      refine lv_if_eq (tgt := 50) hx hb d_S_endWaitingInTime_23 (by decide) (fun c_23 => ?_) (fun c_23 => ?_)
      · exact z_vret (wf := fun _ : Unit => (wC ad G (f_endWaitingInTime st) ++ wr)) (u := ()) hx hb hr hlocks h0 (by rw [f_endWaitingInTime, if_neg c_5, if_neg c_13]; exact hw) trivial (Nat.le_of_ble_eq_true rfl) (Nat.le_of_ble_eq_true rfl) d_S_endWaitingInTime_50
      · exact absurd (by decide) c_23
    · refine lv_iconst (v := 1) hx hb d_S_endWaitingInTime_16 (by decide) ?_
      refine lv_goto (tgt := 21) hx hb d_S_endWaitingInTime_17 (by decide) ?_
      refine lv_istore_n (lv' := [(1, .int 1), (0, .ref (ad 0))]) hx hb d_S_endWaitingInTime_21 rfl hl (by decide) rfl (fun ls hl => ?_)
      refine lv_iload_n hx hb d_S_endWaitingInTime_22 rfl (lv_at hl 0 rfl) ?_
      refine lv_if_eq (tgt := 50) hx hb d_S_endWaitingInTime_23 (by decide) (fun c_23 => ?_) (fun c_23 => ?_)
      · exact absurd c_23 (by decide)
      · refine lv_aload_n hx hb d_S_endWaitingInTime_26 rfl (lv_at hl 1 rfl) ?_
        refine va_get (D := G.1) (ci := 2) (v := .int (st.1 4)) (C := R_S) (T := T_S) (N := 14) hx hb hts in_S hown h0.1 hw.1 0 rfl rfl 4 (by decide) (hg (.fieldLink R_S 101 "SecureEntry" "time" "I") (by decide +kernel)) (fun _ h9 => h9) rfl d_S_endWaitingInTime_27 ?_
        refine lv_aload_n hx hb d_S_endWaitingInTime_30 rfl (lv_at hl 1 rfl) ?_
        refine va_get (D := G.1) (ci := 2) (v := .int (st.1 7)) (C := R_S) (T := T_S) (N := 14) hx hb hts in_S hown h0.1 hw.1 0 rfl rfl 7 (by decide) (hg (.fieldLink R_S 263 "SecureEntry" "userStateSince" "I") (by decide +kernel)) (fun _ h9 => h9) rfl d_S_endWaitingInTime_31 ?_
        refine lv_isub hx hb d_S_endWaitingInTime_34 ?_
        refine lv_aload_n hx hb d_S_endWaitingInTime_35 rfl (lv_at hl 1 rfl) ?_
        refine va_get (D := G.1) (ci := 2) (v := .ref (ad 1)) (C := R_S) (T := T_S) (N := 14) hx hb hts in_S hown h0.1 hw.1 0 rfl rfl 0 (by decide) (hg (.fieldLink R_S 18 "SecureEntry" "configuration" "[I") (by decide +kernel)) (fun _ h9 => h9) rfl d_S_endWaitingInTime_36 ?_
        refine lv_iconst (v := 2) hx hb d_S_endWaitingInTime_39 (by decide) ?_
        refine va_iald hx hb h0.1 hw.1 1 0 rfl rfl (show vp_in 2 6 by unfold vp_in; decide) d_S_endWaitingInTime_40 ?_
        refine lv_icmp_lt (tgt := 50) hx hb d_S_endWaitingInTime_41 (by decide) (fun c_41 => ?_) (fun c_41 => ?_)
        · exact z_vret (wf := fun _ : Unit => (wC ad G (f_endWaitingInTime st) ++ wr)) (u := ()) hx hb hr hlocks h0 (by rw [f_endWaitingInTime, if_neg c_5, if_pos c_13, if_pos c_41]; exact hw) trivial (Nat.le_of_ble_eq_true rfl) (Nat.le_of_ble_eq_true rfl) d_S_endWaitingInTime_50
        · refine lv_aload_n hx hb d_S_endWaitingInTime_44 rfl (lv_at hl 1 rfl) ?_
          refine lv_bipush (v := 6) hx hb d_S_endWaitingInTime_45 (by decide) ?_
          refine z_Vv0 (As := [.int 6]) (ws1 := (wC ad G (f_turnAway st 6) ++ wr)) ⟨hx, hb, hml, hown, hts⟩ (c_S_turnAway l G ad st wr _ 6 (by first | assumption | exact hI.2.2.2.1 | exact hI.2.2.2.2 | (unfold vp_in; decide) | exact Or.inr (by assumption) | exact cof_mem hI | (intro a h; cases h; assumption) | exact (hI.2.1 _ (by assumption)).1)) (cwV 1 hts gV_S_127 rfl rfl rfl (by decide +kernel) ⟨Nat.le_of_ble_eq_true rfl, Nat.le_of_ble_eq_true rfl⟩) h0 hw 0 rfl rfl rfl rfl hl.1 rfl (Nat.le_of_ble_eq_true rfl) d_S_endWaitingInTime_47 ⟨Nat.le_of_ble_eq_true rfl, Nat.le_of_ble_eq_true rfl⟩ (fun H locs hw => ?_)
          have hI : InvC (f_turnAway st 6) := inv_f_turnAway hI
          exact z_vret (wf := fun _ : Unit => (wC ad G (f_endWaitingInTime st) ++ wr)) (u := ()) hx hb hr hlocks h0 (by rw [f_endWaitingInTime, if_neg c_5, if_pos c_13, if_neg c_41]; exact hw) trivial (Nat.le_of_ble_eq_true rfl) (Nat.le_of_ble_eq_true rfl) d_S_endWaitingInTime_50
set_option maxHeartbeats 4000000 in
set_option maxRecDepth 100000 in
theorem c_S_endAdministrationInTime (l : Launch) (G : gG) (ad : Nat → Nat) (st : CS) (wr : va_W) (sz : Nat)  (hI : InvC st) : Met l y_S_endAdministrationInTime w_S_endAdministrationInTime { frames := 5, cells := 0, slots := 0, locals := 126 } (va_Pc [.ref (ad 0)] (z_pre G (wC ad G st ++ wr) sz)) (z_Qv0 G (wC ad G st ++ wr) sz (wC ad G (f_endAdministrationInTime st) ++ wr)) 0 0 (va_A (wC ad G st ++ wr) sz) := by
  refine Met.ofW (cc := b_S_endAdministrationInTime) (maxL := 1) (ret := none) (by decide) rfl ?_
  intro p e s m args below meth c s₁ B hml hv
  obtain ⟨rfl, hsz, hP, hK, hD0, ham⟩ := hv
  subst hsz
  have hx := B.exec
  have hb := B.bytes
  have hr := B.returns
  have hts : ∀ w ∈ goT, w.before _ s = true := fun w h => atoms_spec (ws := w_S_endAdministrationInTime) B.pre w (List.mem_cons_of_mem _ h)
  have hg : ∀ w, goB w = true → w.before _ s = true := fun w h => hts w (goI h)
  have hown : s.vm.findClass R_S = some m.cls := findClass_of_methodNamed B.named
  have hlocks := B.notSynchronized
  have h0 : z_st G (wC ad G st ++ wr) s := ⟨hK, ham⟩
  have hw : z_wl G (wC ad G st ++ wr) s (wC ad G st ++ wr) s.heap [] := z_0 hP hD0
  have hl := lv_entry ([.ref (ad 0)]) (n := 1) (Nat.le_of_ble_eq_true rfl)
  rw [lg_entry_eq]
  generalize (lg_sl ([.ref (ad 0)]) ++ List.replicate (1 - (lg_sl ([.ref (ad 0)])).length) Slot.unset).toArray = ls at hl ⊢
  have hl : lv_has ls 1 [(0, .ref (ad 0))] := hl
  refine lv_aload_n hx hb d_S_endAdministrationInTime_0 rfl (lv_at hl 0 rfl) ?_
  refine va_get (D := G.1) (ci := 2) (v := .int (st.1 10)) (C := R_S) (T := T_S) (N := 14) hx hb hts in_S hown h0.1 hw.1 0 rfl rfl 10 (by decide) (hg (.fieldLink R_S 47 "SecureEntry" "administratorRole" "I") (by decide +kernel)) (fun _ h9 => h9) rfl d_S_endAdministrationInTime_1 ?_
  refine lv_if_eq (tgt := 27) hx hb d_S_endAdministrationInTime_4 (by decide) (fun c_4 => ?_) (fun c_4 => ?_)
  · exact z_vret (wf := fun _ : Unit => (wC ad G (f_endAdministrationInTime st) ++ wr)) (u := ()) hx hb hr hlocks h0 (by rw [f_endAdministrationInTime, if_pos c_4]; exact hw) trivial (Nat.le_of_ble_eq_true rfl) (Nat.le_of_ble_eq_true rfl) d_S_endAdministrationInTime_27
  · refine lv_aload_n hx hb d_S_endAdministrationInTime_7 rfl (lv_at hl 0 rfl) ?_
    refine lv_aload_n hx hb d_S_endAdministrationInTime_8 rfl (lv_at hl 0 rfl) ?_
    refine lv_aload_n hx hb d_S_endAdministrationInTime_9 rfl (lv_at hl 0 rfl) ?_
    refine va_get (D := G.1) (ci := 2) (v := .int (st.1 9)) (C := R_S) (T := T_S) (N := 14) hx hb hts in_S hown h0.1 hw.1 0 rfl rfl 9 (by decide) (hg (.fieldLink R_S 44 "SecureEntry" "innerToken" "I") (by decide +kernel)) (fun _ h9 => h9) rfl d_S_endAdministrationInTime_10 ?_
    refine lv_iconst (v := 3) hx hb d_S_endAdministrationInTime_13 (by decide) ?_
    refine z_Vq0 (As := [.int (st.1 9), .int 3]) (v := (f_certificateOf st (st.1 9) 3)) ⟨hx, hb, hml, hown, hts⟩ (c_S_certificateOf l G ad st wr _ (st.1 9) 3 (by first | assumption | exact hI.2.2.2.1 | exact hI.2.2.2.2 | (unfold vp_in; decide) | exact Or.inr (by assumption) | exact cof_mem hI | (intro a h; cases h; assumption) | exact (hI.2.1 _ (by assumption)).1) (by first | assumption | exact hI.2.2.2.1 | exact hI.2.2.2.2 | (unfold vp_in; decide) | exact Or.inr (by assumption) | exact cof_mem hI | (intro a h; cases h; assumption) | exact (hI.2.1 _ (by assumption)).1)) (cwV 2 hts gV_S_76 rfl rfl rfl (by decide +kernel) ⟨Nat.le_of_ble_eq_true rfl, Nat.le_of_ble_eq_true rfl⟩) h0 hw 0 rfl rfl rfl rfl hl.1 rfl (Nat.le_of_ble_eq_true rfl) d_S_endAdministrationInTime_14 ⟨Nat.le_of_ble_eq_true rfl, Nat.le_of_ble_eq_true rfl⟩ (fun H locs hw => ?_)
    refine z_Vi0 (As := [va_rf (f_certificateOf st (st.1 9) 3)]) (v := (f_isValid st (f_certificateOf st (st.1 9) 3))) ⟨hx, hb, hml, hown, hts⟩ (c_S_isValid l G ad st wr _ (f_certificateOf st (st.1 9) 3) (by first | assumption | exact hI.2.2.2.1 | exact hI.2.2.2.2 | (unfold vp_in; decide) | exact Or.inr (by assumption) | exact cof_mem hI | (intro a h; cases h; assumption) | exact (hI.2.1 _ (by assumption)).1) (by first | assumption | exact hI.2.2.2.1 | exact hI.2.2.2.2 | (unfold vp_in; decide) | exact Or.inr (by assumption) | exact cof_mem hI | (intro a h; cases h; assumption) | exact (hI.2.1 _ (by assumption)).1)) (cwV 1 hts gV_S_217 rfl rfl rfl (by decide +kernel) ⟨Nat.le_of_ble_eq_true rfl, Nat.le_of_ble_eq_true rfl⟩) h0 hw 0 rfl rfl rfl rfl hl.1 rfl (Nat.le_of_ble_eq_true rfl) d_S_endAdministrationInTime_17 ⟨Nat.le_of_ble_eq_true rfl, Nat.le_of_ble_eq_true rfl⟩ (fun H locs hw => ?_)
    refine lv_if_ne (tgt := 27) hx hb d_S_endAdministrationInTime_20 (by decide) (fun c_20 => ?_) (fun c_20 => ?_)
    · exact z_vret (wf := fun _ : Unit => (wC ad G (f_endAdministrationInTime st) ++ wr)) (u := ()) hx hb hr hlocks h0 (by rw [f_endAdministrationInTime, if_neg c_4, if_neg c_20]; exact hw) trivial (Nat.le_of_ble_eq_true rfl) (Nat.le_of_ble_eq_true rfl) d_S_endAdministrationInTime_27
    · refine lv_aload_n hx hb d_S_endAdministrationInTime_23 rfl (lv_at hl 0 rfl) ?_
      refine z_Vv0 (As := []) (ws1 := (wC ad G (f_dismissAdministrator st) ++ wr)) ⟨hx, hb, hml, hown, hts⟩ (c_S_dismissAdministrator l G ad st wr _  (by first | assumption | exact hI.2.2.2.1 | exact hI.2.2.2.2 | (unfold vp_in; decide) | exact Or.inr (by assumption) | exact cof_mem hI | (intro a h; cases h; assumption) | exact (hI.2.1 _ (by assumption)).1)) (cwV 0 hts gV_S_152 rfl rfl rfl (by decide +kernel) ⟨Nat.le_of_ble_eq_true rfl, Nat.le_of_ble_eq_true rfl⟩) h0 hw 0 rfl rfl rfl rfl hl.1 rfl (Nat.le_of_ble_eq_true rfl) d_S_endAdministrationInTime_24 ⟨Nat.le_of_ble_eq_true rfl, Nat.le_of_ble_eq_true rfl⟩ (fun H locs hw => ?_)
      have hI : InvC (f_dismissAdministrator st) := inv_f_dismissAdministrator hI
      exact z_vret (wf := fun _ : Unit => (wC ad G (f_endAdministrationInTime st) ++ wr)) (u := ()) hx hb hr hlocks h0 (by rw [f_endAdministrationInTime, if_neg c_4, if_pos c_20]; exact hw) trivial (Nat.le_of_ble_eq_true rfl) (Nat.le_of_ble_eq_true rfl) d_S_endAdministrationInTime_27
end CON
