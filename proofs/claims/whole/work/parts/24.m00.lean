section MC
set_option maxHeartbeats 4000000 in
set_option maxRecDepth 100000 in
theorem c_M_thrown (l : Launch) (G : gG) (bd : Nat → Nat) (st : MS) (wr : va_W) (sz : Nat)   : Met l y_M_thrown w_M_thrown { frames := 0, cells := 0, slots := 0, locals := 0 } (va_Pc [.ref (bd 0)] (z_pre G (wM bd G st ++ wr) sz)) (z_Qi0 G (wM bd G st ++ wr) sz (wM bd G st ++ wr) (m_thrown st)) 0 0 (va_A (wM bd G st ++ wr) sz) := by
  refine Met.ofW (cc := b_M_thrown) (maxL := 1) (ret := (some .int)) (by decide) rfl ?_
  intro p e s m args below meth c s₁ B hml hv
  obtain ⟨rfl, hsz, hP, hK, hD0, ham⟩ := hv
  subst hsz
  have hx := B.exec
  have hb := B.bytes
  have hr := B.returns
  have hts : ∀ w ∈ goT, w.before _ s = true := fun w h => atoms_spec (ws := w_M_thrown) B.pre w (List.mem_cons_of_mem _ h)
  have hg : ∀ w, goB w = true → w.before _ s = true := fun w h => hts w (goI h)
  have hown : s.vm.findClass R_M = some m.cls := findClass_of_methodNamed B.named
  have hlocks := B.notSynchronized
  have h0 : z_st G (wM bd G st ++ wr) s := ⟨hK, ham⟩
  have hw : z_wl G (wM bd G st ++ wr) s (wM bd G st ++ wr) s.heap [] := z_0 hP hD0
  have hl := lv_entry ([.ref (bd 0)]) (n := 1) (Nat.le_of_ble_eq_true rfl)
  rw [lg_entry_eq]
  generalize (lg_sl ([.ref (bd 0)]) ++ List.replicate (1 - (lg_sl ([.ref (bd 0)])).length) Slot.unset).toArray = ls at hl ⊢
  have hl : lv_has ls 1 [(0, .ref (bd 0))] := hl
  refine lv_aload_n hx hb d_M_thrown_0 rfl (lv_at hl 0 rfl) ?_
  refine va_get (D := G.1) (ci := 3) (v := .int (st.1 0)) (C := R_M) (T := T_M) (N := 25) hx hb hts in_M hown h0.1 hw.1 0 rfl rfl 0 (by decide) (hg (.fieldLink R_M 54 "SecureEntryModel" "thrown" "I") (by decide +kernel)) (fun _ h9 => h9) rfl d_M_thrown_1 ?_
  exact z_iret (wf := fun _ : Unit => (wM bd G st ++ wr)) (u := ()) hx hb hr hlocks h0 hw rfl (by rw [m_thrown]) (Nat.le_of_ble_eq_true rfl) (Nat.le_of_ble_eq_true rfl) d_M_thrown_4
set_option maxHeartbeats 4000000 in
set_option maxRecDepth 100000 in
theorem c_M_raise (l : Launch) (G : gG) (bd : Nat → Nat) (st : MS) (wr : va_W) (sz : Nat) (p1 : Int32)  : Met l y_M_raise w_M_raise { frames := 0, cells := 0, slots := 0, locals := 0 } (va_Pc [.ref (bd 0), .int p1] (z_pre G (wM bd G st ++ wr) sz)) (z_Qi0 G (wM bd G st ++ wr) sz (wM bd G (m_raise st p1).2 ++ wr) (m_raise st p1).1) 0 0 (va_A (wM bd G st ++ wr) sz) := by
  refine Met.ofW (cc := b_M_raise) (maxL := 2) (ret := (some .int)) (by decide) rfl ?_
  intro p e s m args below meth c s₁ B hml hv
  obtain ⟨rfl, hsz, hP, hK, hD0, ham⟩ := hv
  subst hsz
  have hx := B.exec
  have hb := B.bytes
  have hr := B.returns
  have hts : ∀ w ∈ goT, w.before _ s = true := fun w h => atoms_spec (ws := w_M_raise) B.pre w (List.mem_cons_of_mem _ h)
  have hg : ∀ w, goB w = true → w.before _ s = true := fun w h => hts w (goI h)
  have hown : s.vm.findClass R_M = some m.cls := findClass_of_methodNamed B.named
  have hlocks := B.notSynchronized
  have h0 : z_st G (wM bd G st ++ wr) s := ⟨hK, ham⟩
  have hw : z_wl G (wM bd G st ++ wr) s (wM bd G st ++ wr) s.heap [] := z_0 hP hD0
  have hl := lv_entry ([.ref (bd 0), .int p1]) (n := 2) (Nat.le_of_ble_eq_true rfl)
  rw [lg_entry_eq]
  generalize (lg_sl ([.ref (bd 0), .int p1]) ++ List.replicate (2 - (lg_sl ([.ref (bd 0), .int p1])).length) Slot.unset).toArray = ls at hl ⊢
  have hl : lv_has ls 2 [(0, .ref (bd 0)), (1, .int p1)] := hl
  refine lv_aload_n hx hb d_M_raise_0 rfl (lv_at hl 0 rfl) ?_
  refine lv_iload_n hx hb d_M_raise_1 rfl (lv_at hl 1 rfl) ?_
  refine va_put (D := G.1) (ci := 3) (v := .int p1) (ty := .int) (C := R_M) (T := T_M) (N := 25) hx hb hts in_M ty_M ty_M_ok n_M hown h0.1 hw.1 hw.2.1 hw.2.2 0 rfl rfl 0 (by decide) (hg (.fieldLink R_M 54 "SecureEntryModel" "thrown" "I") (by decide +kernel)) (fun _ h9 => h9) rfl (by decide +kernel) rfl rfl (Nat.le_of_ble_eq_true rfl) d_M_raise_2 (fun H locs hP hD hS => ?_)
  have hw : z_wl G (wM bd G st ++ wr) s (wM bd G (mS st 0 p1) ++ wr) H locs := ⟨hP, hD, hS⟩
  refine lv_iconst (v := 0) hx hb d_M_raise_5 (by decide) ?_
  exact z_iret (wf := fun _ : Unit => (wM bd G (m_raise st p1).2 ++ wr)) (post := fun r _ => r = (m_raise st p1).1) (u := ()) hx hb hr hlocks h0 (by rw [m_raise]; exact hw) rfl (by rw [m_raise]) (Nat.le_of_ble_eq_true rfl) (Nat.le_of_ble_eq_true rfl) d_M_raise_6
set_option maxHeartbeats 4000000 in
set_option maxRecDepth 100000 in
theorem c_M_in (l : Launch) (G : gG) (ws : va_W) (sz : Nat) (p1 : Int32) (p2 : Int32) (p3 : Int32)  : Met l y_M_in w_M_in { frames := 0, cells := 0, slots := 0, locals := 0 } (va_Pc [.int p1, .int p2, .int p3] (z_pre G ws sz)) (z_Qi0 G ws sz ws (m_inn p1 p2 p3)) 0 0 (va_A ws sz) := by
  refine Met.ofW (cc := b_M_in) (maxL := 3) (ret := (some .boolean)) (by decide) rfl ?_
  intro p e s m args below meth c s₁ B hml hv
  obtain ⟨rfl, hsz, hP, hK, hD0, ham⟩ := hv
  subst hsz
  have hx := B.exec
  have hb := B.bytes
  have hr := B.returns
  have hts : ∀ w ∈ goT, w.before _ s = true := fun w h => atoms_spec (ws := w_M_in) B.pre w (List.mem_cons_of_mem _ h)
  have hg : ∀ w, goB w = true → w.before _ s = true := fun w h => hts w (goI h)
  have hown : s.vm.findClass R_M = some m.cls := findClass_of_methodNamed B.named
  have hlocks := B.notSynchronized
  have h0 : z_st G ws s := ⟨hK, ham⟩
  have hw : z_wl G ws s ws s.heap [] := z_0 hP hD0
  have hl := lv_entry ([.int p1, .int p2, .int p3]) (n := 3) (Nat.le_of_ble_eq_true rfl)
  rw [lg_entry_eq]
  generalize (lg_sl ([.int p1, .int p2, .int p3]) ++ List.replicate (3 - (lg_sl ([.int p1, .int p2, .int p3])).length) Slot.unset).toArray = ls at hl ⊢
  have hl : lv_has ls 3 [(0, .int p1), (1, .int p2), (2, .int p3)] := hl
  refine lv_iload_n hx hb d_M_in_0 rfl (lv_at hl 0 rfl) ?_
  refine lv_iload_n hx hb d_M_in_1 rfl (lv_at hl 1 rfl) ?_
  refine lv_icmp_lt (tgt := 14) hx hb d_M_in_2 (by decide) (fun c_2 => ?_) (fun c_2 => ?_)
  · refine lv_iconst (v := 0) hx hb d_M_in_14 (by decide) ?_
    exact z_iret (wf := fun _ : Unit => ws) (u := ()) hx hb hr hlocks h0 hw rfl (by rw [m_inn, if_pos c_2]) (Nat.le_of_ble_eq_true rfl) (Nat.le_of_ble_eq_true rfl) d_M_in_15
  · refine lv_iload_n hx hb d_M_in_5 rfl (lv_at hl 0 rfl) ?_
    refine lv_iload_n hx hb d_M_in_6 rfl (lv_at hl 2 rfl) ?_
    refine lv_icmp_gt (tgt := 14) hx hb d_M_in_7 (by decide) (fun c_7 => ?_) (fun c_7 => ?_)
    · refine lv_iconst (v := 0) hx hb d_M_in_14 (by decide) ?_
      exact z_iret (wf := fun _ : Unit => ws) (u := ()) hx hb hr hlocks h0 hw rfl (by rw [m_inn, if_neg c_2, if_pos c_7]) (Nat.le_of_ble_eq_true rfl) (Nat.le_of_ble_eq_true rfl) d_M_in_15
    · refine lv_iconst (v := 1) hx hb d_M_in_10 (by decide) ?_
      refine lv_goto (tgt := 15) hx hb d_M_in_11 (by decide) ?_
      exact z_iret (wf := fun _ : Unit => ws) (u := ()) hx hb hr hlocks h0 hw rfl (by rw [m_inn, if_neg c_2, if_neg c_7]) (Nat.le_of_ble_eq_true rfl) (Nat.le_of_ble_eq_true rfl) d_M_in_15

end MC
