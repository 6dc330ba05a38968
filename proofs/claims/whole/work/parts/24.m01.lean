section MC
set_option maxHeartbeats 4000000 in
set_option maxRecDepth 100000 in
theorem c_M_ranges (l : Launch) (G : gG) (ws : va_W) (sz : Nat) (p1 : Int32) (p2 : Int32) (p3 : Int32) (p4 : Int32) (p5 : Int32) (p6 : Int32)  : Met l y_M_ranges w_M_ranges { frames := 1, cells := 0, slots := 0, locals := 22 } (va_Pc [.int p1, .int p2, .int p3, .int p4, .int p5, .int p6] (z_pre G ws sz)) (z_Qi0 G ws sz ws (m_ranges p1 p2 p3 p4 p5 p6)) 0 0 (va_A ws sz) := by
  refine Met.ofW (cc := b_M_ranges) (maxL := 6) (ret := (some .boolean)) (by decide) rfl ?_
  intro p e s m args below meth c s₁ B hml hv
  obtain ⟨rfl, hsz, hP, hK, hD0, ham⟩ := hv
  subst hsz
  have hx := B.exec
  have hb := B.bytes
  have hr := B.returns
  have hts : ∀ w ∈ goT, w.before _ s = true := fun w h => atoms_spec (ws := w_M_ranges) B.pre w (List.mem_cons_of_mem _ h)
  have hg : ∀ w, goB w = true → w.before _ s = true := fun w h => hts w (goI h)
  have hown : s.vm.findClass R_M = some m.cls := findClass_of_methodNamed B.named
  have hlocks := B.notSynchronized
  have h0 : z_st G ws s := ⟨hK, ham⟩
  have hw : z_wl G ws s ws s.heap [] := z_0 hP hD0
  have hl := lv_entry ([.int p1, .int p2, .int p3, .int p4, .int p5, .int p6]) (n := 6) (Nat.le_of_ble_eq_true rfl)
  rw [lg_entry_eq]
  generalize (lg_sl ([.int p1, .int p2, .int p3, .int p4, .int p5, .int p6]) ++ List.replicate (6 - (lg_sl ([.int p1, .int p2, .int p3, .int p4, .int p5, .int p6])).length) Slot.unset).toArray = ls at hl ⊢
  have hl : lv_has ls 6 [(0, .int p1), (1, .int p2), (2, .int p3), (3, .int p4), (4, .int p5), (5, .int p6)] := hl
  refine lv_iload_n hx hb d_M_ranges_0 rfl (lv_at hl 0 rfl) ?_
  refine lv_iconst (v := 0) hx hb d_M_ranges_1 (by decide) ?_
  refine lv_iconst (v := 3) hx hb d_M_ranges_2 (by decide) ?_
  refine z_Si0 (As := [.int p1, .int 0, .int 3]) (v := (m_inn p1 0 3)) ⟨hx, hb, hml, hown, hts⟩ (c_M_in l G ws _ p1 0 3) (cwS 3 hts gS_M_57 rfl rfl rfl (by decide +kernel) ⟨Nat.le_of_ble_eq_true rfl, Nat.le_of_ble_eq_true rfl⟩) h0 hw rfl hl.1 rfl (Nat.le_of_ble_eq_true rfl) d_M_ranges_3 ⟨Nat.le_of_ble_eq_true rfl, Nat.le_of_ble_eq_true rfl⟩ (fun H locs hw => ?_)
  refine lv_if_eq (tgt := 65) hx hb d_M_ranges_6 (by decide) (fun c_6 => ?_) (fun c_6 => ?_)
  · refine lv_iconst (v := 0) hx hb d_M_ranges_65 (by decide) ?_
    exact z_iret (wf := fun _ : Unit => ws) (u := ()) hx hb hr hlocks h0 hw rfl (by rw [m_ranges, if_pos c_6]) (Nat.le_of_ble_eq_true rfl) (Nat.le_of_ble_eq_true rfl) d_M_ranges_66
  · refine lv_iload_n hx hb d_M_ranges_9 rfl (lv_at hl 1 rfl) ?_
    refine lv_iconst (v := 0) hx hb d_M_ranges_10 (by decide) ?_
    refine lv_bipush (v := 6) hx hb d_M_ranges_11 (by decide) ?_
    refine z_Si0 (As := [.int p2, .int 0, .int 6]) (v := (m_inn p2 0 6)) ⟨hx, hb, hml, hown, hts⟩ (c_M_in l G ws _ p2 0 6) (cwS 3 hts gS_M_57 rfl rfl rfl (by decide +kernel) ⟨Nat.le_of_ble_eq_true rfl, Nat.le_of_ble_eq_true rfl⟩) h0 hw rfl hl.1 rfl (Nat.le_of_ble_eq_true rfl) d_M_ranges_13 ⟨Nat.le_of_ble_eq_true rfl, Nat.le_of_ble_eq_true rfl⟩ (fun H locs hw => ?_)
    refine lv_if_eq (tgt := 65) hx hb d_M_ranges_16 (by decide) (fun c_16 => ?_) (fun c_16 => ?_)
    · refine lv_iconst (v := 0) hx hb d_M_ranges_65 (by decide) ?_
      exact z_iret (wf := fun _ : Unit => ws) (u := ()) hx hb hr hlocks h0 hw rfl (by rw [m_ranges, if_neg c_6, if_pos c_16]) (Nat.le_of_ble_eq_true rfl) (Nat.le_of_ble_eq_true rfl) d_M_ranges_66
    · refine lv_iload_n hx hb d_M_ranges_19 rfl (lv_at hl 2 rfl) ?_
      refine lv_iconst (v := 0) hx hb d_M_ranges_20 (by decide) ?_
      refine lv_bipush (v := 99) hx hb d_M_ranges_21 (by decide) ?_
      refine z_Si0 (As := [.int p3, .int 0, .int 99]) (v := (m_inn p3 0 99)) ⟨hx, hb, hml, hown, hts⟩ (c_M_in l G ws _ p3 0 99) (cwS 3 hts gS_M_57 rfl rfl rfl (by decide +kernel) ⟨Nat.le_of_ble_eq_true rfl, Nat.le_of_ble_eq_true rfl⟩) h0 hw rfl hl.1 rfl (Nat.le_of_ble_eq_true rfl) d_M_ranges_23 ⟨Nat.le_of_ble_eq_true rfl, Nat.le_of_ble_eq_true rfl⟩ (fun H locs hw => ?_)
      refine lv_if_eq (tgt := 65) hx hb d_M_ranges_26 (by decide) (fun c_26 => ?_) (fun c_26 => ?_)
      · refine lv_iconst (v := 0) hx hb d_M_ranges_65 (by decide) ?_
        exact z_iret (wf := fun _ : Unit => ws) (u := ()) hx hb hr hlocks h0 hw rfl (by rw [m_ranges, if_neg c_6, if_neg c_16, if_pos c_26]) (Nat.le_of_ble_eq_true rfl) (Nat.le_of_ble_eq_true rfl) d_M_ranges_66
      · refine lv_iload_n hx hb d_M_ranges_29 rfl (lv_at hl 3 rfl) ?_
        refine lv_iconst (v := 0) hx hb d_M_ranges_30 (by decide) ?_
        refine lv_ldc hx hb hown (hg (.constant R_M 61 65535) (by decide +kernel)) d_M_ranges_31 ?_
        refine z_Si0 (As := [.int p4, .int 0, .int 65535]) (v := (m_inn p4 0 65535)) ⟨hx, hb, hml, hown, hts⟩ (c_M_in l G ws _ p4 0 65535) (cwS 3 hts gS_M_57 rfl rfl rfl (by decide +kernel) ⟨Nat.le_of_ble_eq_true rfl, Nat.le_of_ble_eq_true rfl⟩) h0 hw rfl hl.1 rfl (Nat.le_of_ble_eq_true rfl) d_M_ranges_33 ⟨Nat.le_of_ble_eq_true rfl, Nat.le_of_ble_eq_true rfl⟩ (fun H locs hw => ?_)
        refine lv_if_eq (tgt := 65) hx hb d_M_ranges_36 (by decide) (fun c_36 => ?_) (fun c_36 => ?_)
        · refine lv_iconst (v := 0) hx hb d_M_ranges_65 (by decide) ?_
          exact z_iret (wf := fun _ : Unit => ws) (u := ()) hx hb hr hlocks h0 hw rfl (by rw [m_ranges, if_neg c_6, if_neg c_16, if_neg c_26, if_pos c_36]) (Nat.le_of_ble_eq_true rfl) (Nat.le_of_ble_eq_true rfl) d_M_ranges_66
        · refine lv_iload hx hb d_M_ranges_39 (lv_at hl 4 rfl) ?_
          refine lv_iconst (v := 0) hx hb d_M_ranges_41 (by decide) ?_
          refine lv_ldc hx hb hown (hg (.constant R_M 62 100000) (by decide +kernel)) d_M_ranges_42 ?_
          refine z_Si0 (As := [.int p5, .int 0, .int 100000]) (v := (m_inn p5 0 100000)) ⟨hx, hb, hml, hown, hts⟩ (c_M_in l G ws _ p5 0 100000) (cwS 3 hts gS_M_57 rfl rfl rfl (by decide +kernel) ⟨Nat.le_of_ble_eq_true rfl, Nat.le_of_ble_eq_true rfl⟩) h0 hw rfl hl.1 rfl (Nat.le_of_ble_eq_true rfl) d_M_ranges_44 ⟨Nat.le_of_ble_eq_true rfl, Nat.le_of_ble_eq_true rfl⟩ (fun H locs hw => ?_)
          refine lv_if_eq (tgt := 65) hx hb d_M_ranges_47 (by decide) (fun c_47 => ?_) (fun c_47 => ?_)
          · refine lv_iconst (v := 0) hx hb d_M_ranges_65 (by decide) ?_
            exact z_iret (wf := fun _ : Unit => ws) (u := ()) hx hb hr hlocks h0 hw rfl (by rw [m_ranges, if_neg c_6, if_neg c_16, if_neg c_26, if_neg c_36, if_pos c_47]) (Nat.le_of_ble_eq_true rfl) (Nat.le_of_ble_eq_true rfl) d_M_ranges_66
          · refine lv_iload hx hb d_M_ranges_50 (lv_at hl 5 rfl) ?_
            refine lv_iconst (v := 0) hx hb d_M_ranges_52 (by decide) ?_
            refine lv_ldc hx hb hown (hg (.constant R_M 62 100000) (by decide +kernel)) d_M_ranges_53 ?_
            refine z_Si0 (As := [.int p6, .int 0, .int 100000]) (v := (m_inn p6 0 100000)) ⟨hx, hb, hml, hown, hts⟩ (c_M_in l G ws _ p6 0 100000) (cwS 3 hts gS_M_57 rfl rfl rfl (by decide +kernel) ⟨Nat.le_of_ble_eq_true rfl, Nat.le_of_ble_eq_true rfl⟩) h0 hw rfl hl.1 rfl (Nat.le_of_ble_eq_true rfl) d_M_ranges_55 ⟨Nat.le_of_ble_eq_true rfl, Nat.le_of_ble_eq_true rfl⟩ (fun H locs hw => ?_)
            refine lv_if_eq (tgt := 65) hx hb d_M_ranges_58 (by decide) (fun c_58 => ?_) (fun c_58 => ?_)
            · refine lv_iconst (v := 0) hx hb d_M_ranges_65 (by decide) ?_
              exact z_iret (wf := fun _ : Unit => ws) (u := ()) hx hb hr hlocks h0 hw rfl (by rw [m_ranges, if_neg c_6, if_neg c_16, if_neg c_26, if_neg c_36, if_neg c_47, if_pos c_58]) (Nat.le_of_ble_eq_true rfl) (Nat.le_of_ble_eq_true rfl) d_M_ranges_66
            · refine lv_iconst (v := 1) hx hb d_M_ranges_61 (by decide) ?_
              refine lv_goto (tgt := 66) hx hb d_M_ranges_62 (by decide) ?_
              exact z_iret (wf := fun _ : Unit => ws) (u := ()) hx hb hr hlocks h0 hw rfl (by rw [m_ranges, if_neg c_6, if_neg c_16, if_neg c_26, if_neg c_36, if_neg c_47, if_neg c_58]) (Nat.le_of_ble_eq_true rfl) (Nat.le_of_ble_eq_true rfl) d_M_ranges_66
set_option maxHeartbeats 4000000 in
set_option maxRecDepth 100000 in
theorem c_M_right (l : Launch) (G : gG) (bd : Nat → Nat) (st : MS) (wr : va_W) (sz : Nat) (p1 : Int32) (p2 : Int32) (p3 : Int32) (p4 : Int32) (p5 : Int32) (p6 : Int32) (hp2 : vp_in p2 7) : Met l y_M_right w_M_right { frames := 0, cells := 0, slots := 0, locals := 0 } (va_Pc [.ref (bd 0), .int p1, .int p2, .int p3, .int p4, .int p5, .int p6] (z_pre G (wM bd G st ++ wr) sz)) (z_Qi0 G (wM bd G st ++ wr) sz (wM bd G st ++ wr) (m_right st p1 p2 p3 p4 p5 p6)) 0 0 (va_A (wM bd G st ++ wr) sz) := by
  refine Met.ofW (cc := b_M_right) (maxL := 9) (ret := (some .int)) (by decide) rfl ?_
  intro p e s m args below meth c s₁ B hml hv
  obtain ⟨rfl, hsz, hP, hK, hD0, ham⟩ := hv
  subst hsz
  have hx := B.exec
  have hb := B.bytes
  have hr := B.returns
  have hts : ∀ w ∈ goT, w.before _ s = true := fun w h => atoms_spec (ws := w_M_right) B.pre w (List.mem_cons_of_mem _ h)
  have hg : ∀ w, goB w = true → w.before _ s = true := fun w h => hts w (goI h)
  have hown : s.vm.findClass R_M = some m.cls := findClass_of_methodNamed B.named
  have hlocks := B.notSynchronized
  have h0 : z_st G (wM bd G st ++ wr) s := ⟨hK, ham⟩
  have hw : z_wl G (wM bd G st ++ wr) s (wM bd G st ++ wr) s.heap [] := z_0 hP hD0
  have hl := lv_entry ([.ref (bd 0), .int p1, .int p2, .int p3, .int p4, .int p5, .int p6]) (n := 9) (Nat.le_of_ble_eq_true rfl)
  rw [lg_entry_eq]
  generalize (lg_sl ([.ref (bd 0), .int p1, .int p2, .int p3, .int p4, .int p5, .int p6]) ++ List.replicate (9 - (lg_sl ([.ref (bd 0), .int p1, .int p2, .int p3, .int p4, .int p5, .int p6])).length) Slot.unset).toArray = ls at hl ⊢
  have hl : lv_has ls 9 [(0, .ref (bd 0)), (1, .int p1), (2, .int p2), (3, .int p3), (4, .int p4), (5, .int p5), (6, .int p6)] := hl
  refine lv_iload_n hx hb d_M_right_0 rfl (lv_at hl 1 rfl) ?_
  refine lv_i2l hx hb d_M_right_1 rfl ?_
  refine lv_ldc2 hx hb hown (hg (.constantLong R_M 63 100) (by decide +kernel)) d_M_right_2 ?_
  refine lv_lmul hx hb d_M_right_5 ?_
  refine lv_iload_n hx hb d_M_right_6 rfl (lv_at hl 3 rfl) ?_
  refine lv_i2l hx hb d_M_right_7 rfl ?_
  refine lv_ladd hx hb d_M_right_8 ?_
  refine lv_ldc2 hx hb hown (hg (.constantLong R_M 65 65536) (by decide +kernel)) d_M_right_9 ?_
  refine lv_lmul hx hb d_M_right_12 ?_
  refine lv_iload hx hb d_M_right_13 (lv_at hl 4 rfl) ?_
  refine lv_i2l hx hb d_M_right_15 rfl ?_
  refine lv_ladd hx hb d_M_right_16 ?_
  refine lv_ldc2 hx hb hown (hg (.constantLong R_M 67 9973) (by decide +kernel)) d_M_right_17 ?_
  refine lv_lrem hx hb d_M_right_20 (by decide) ?_
  refine lv_iload hx hb d_M_right_21 (lv_at hl 5 rfl) ?_
  refine lv_i2l hx hb d_M_right_23 rfl ?_
  refine lv_ldc2 hx hb hown (hg (.constantLong R_M 69 31) (by decide +kernel)) d_M_right_24 ?_
  refine lv_lmul hx hb d_M_right_27 ?_
  refine lv_ladd hx hb d_M_right_28 ?_
  refine lv_iload hx hb d_M_right_29 (lv_at hl 6 rfl) ?_
  refine lv_i2l hx hb d_M_right_31 rfl ?_
  refine lv_ldc2 hx hb hown (hg (.constantLong R_M 71 37) (by decide +kernel)) d_M_right_32 ?_
  refine lv_lmul hx hb d_M_right_35 ?_
  refine lv_ladd hx hb d_M_right_36 ?_
  refine lv_lconst (v := 1) hx hb d_M_right_37 (by decide) ?_
  refine lv_ladd hx hb d_M_right_38 ?_
  refine lv_lstore (lv' := [(7, .long ((((((((p1.toInt64 * 100) + p3.toInt64) * 65536) + p4.toInt64) - ((((p1.toInt64 * 100) + p3.toInt64) * 65536) + p4.toInt64) / 9973 * 9973) + (p5.toInt64 * 31)) + (p6.toInt64 * 37)) + 1)), (0, .ref (bd 0)), (1, .int p1), (2, .int p2), (3, .int p3), (4, .int p4), (5, .int p5), (6, .int p6)]) hx hb d_M_right_39 hl (by decide) rfl (fun ls hl => ?_)
  refine lv_lload hx hb d_M_right_41 (lv_at hl 0 rfl) ?_
  refine lv_aload_n hx hb d_M_right_43 rfl (lv_at hl 1 rfl) ?_
  refine va_get (D := G.1) (ci := 3) (v := .ref (bd 3)) (C := R_M) (T := T_M) (N := 25) hx hb hts in_M hown h0.1 hw.1 0 rfl rfl 3 (by decide) (hg (.fieldLink R_M 13 "SecureEntryModel" "keys" "[I") (by decide +kernel)) (fun _ h9 => h9) rfl d_M_right_44 ?_
  refine lv_iload_n hx hb d_M_right_47 rfl (lv_at hl 3 rfl) ?_
  refine va_iald (f := (st.2 3)) hx hb h0.1 hw.1 2 0 rfl rfl hp2 d_M_right_48 ?_
  refine lv_i2l hx hb d_M_right_49 rfl ?_
  refine lv_lmul hx hb d_M_right_50 ?_
  refine lv_ldc2 hx hb hown (hg (.constantLong R_M 67 9973) (by decide +kernel)) d_M_right_51 ?_
  refine lv_lrem hx hb d_M_right_54 (by decide) ?_
  refine lv_l2i hx hb d_M_right_55 rfl ?_
  exact z_iret (wf := fun _ : Unit => (wM bd G st ++ wr)) (u := ()) hx hb hr hlocks h0 hw rfl (by rw [m_right]) (Nat.le_of_ble_eq_true rfl) (Nat.le_of_ble_eq_true rfl) d_M_right_56
set_option maxHeartbeats 4000000 in
set_option maxRecDepth 100000 in
theorem c_M_read (l : Launch) (G : gG) (bd : Nat → Nat) (st : MS) (wr : va_W) (sz : Nat) (p1 : Int32)  : Met l y_M_read w_M_read { frames := 0, cells := 0, slots := 0, locals := 0 } (va_Pc [.ref (bd 0), .int p1] (z_pre G (wM bd G st ++ wr) sz)) (z_Qi0 G (wM bd G st ++ wr) sz (wM bd G st ++ wr) (m_read st p1)) 0 0 (va_A (wM bd G st ++ wr) sz) := by
  refine Met.ofW (cc := b_M_read) (maxL := 2) (ret := (some .boolean)) (by decide) rfl ?_
  intro p e s m args below meth c s₁ B hml hv
  obtain ⟨rfl, hsz, hP, hK, hD0, ham⟩ := hv
  subst hsz
  have hx := B.exec
  have hb := B.bytes
  have hr := B.returns
  have hts : ∀ w ∈ goT, w.before _ s = true := fun w h => atoms_spec (ws := w_M_read) B.pre w (List.mem_cons_of_mem _ h)
  have hg : ∀ w, goB w = true → w.before _ s = true := fun w h => hts w (goI h)
  have hown : s.vm.findClass R_M = some m.cls := findClass_of_methodNamed B.named
  have hlocks := B.notSynchronized
  have h0 : z_st G (wM bd G st ++ wr) s := ⟨hK, ham⟩
  have hw : z_wl G (wM bd G st ++ wr) s (wM bd G st ++ wr) s.heap [] := z_0 hP hD0
  have hl := lv_entry ([.ref (bd 0), .int p1]) (n := 2) (Nat.le_of_ble_eq_true rfl)
  rw [lg_entry_eq]
  generalize (lg_sl ([.ref (bd 0), .int p1]) ++ List.replicate (2 - (lg_sl ([.ref (bd 0), .int p1])).length) Slot.unset).toArray = ls at hl ⊢
  have hl : lv_has ls 2 [(0, .ref (bd 0)), (1, .int p1)] := hl
  refine lv_iload_n hx hb d_M_read_0 rfl (lv_at hl 1 rfl) ?_
  refine lv_aload_n hx hb d_M_read_1 rfl (lv_at hl 0 rfl) ?_
  refine va_get (D := G.1) (ci := 3) (v := .int (st.1 11)) (C := R_M) (T := T_M) (N := 25) hx hb hts in_M hown h0.1 hw.1 0 rfl rfl 11 (by decide) (hg (.fieldLink R_M 38 "SecureEntryModel" "outer" "I") (by decide +kernel)) (fun _ h9 => h9) rfl d_M_read_2 ?_
  refine lv_icmp_eq (tgt := 16) hx hb d_M_read_5 (by decide) (fun c_5 => ?_) (fun c_5 => ?_)
  · refine lv_iconst (v := 1) hx hb d_M_read_16 (by decide) ?_
    refine lv_goto (tgt := 21) hx hb d_M_read_17 (by decide) ?_
    exact z_iret (wf := fun _ : Unit => (wM bd G st ++ wr)) (u := ()) hx hb hr hlocks h0 hw rfl (by rw [m_read, if_pos c_5]) (Nat.le_of_ble_eq_true rfl) (Nat.le_of_ble_eq_true rfl) d_M_read_21
  · refine lv_iload_n hx hb d_M_read_8 rfl (lv_at hl 1 rfl) ?_
    refine lv_aload_n hx hb d_M_read_9 rfl (lv_at hl 0 rfl) ?_
    refine va_get (D := G.1) (ci := 3) (v := .int (st.1 12)) (C := R_M) (T := T_M) (N := 25) hx hb hts in_M hown h0.1 hw.1 0 rfl rfl 12 (by decide) (hg (.fieldLink R_M 42 "SecureEntryModel" "inner" "I") (by decide +kernel)) (fun _ h9 => h9) rfl d_M_read_10 ?_
    refine lv_icmp_ne (tgt := 20) hx hb d_M_read_13 (by decide) (fun c_13 => ?_) (fun c_13 => ?_)
    · refine lv_iconst (v := 0) hx hb d_M_read_20 (by decide) ?_
      exact z_iret (wf := fun _ : Unit => (wM bd G st ++ wr)) (u := ()) hx hb hr hlocks h0 hw rfl (by rw [m_read, if_neg c_5, if_neg c_13]) (Nat.le_of_ble_eq_true rfl) (Nat.le_of_ble_eq_true rfl) d_M_read_21
    · refine lv_iconst (v := 1) hx hb d_M_read_16 (by decide) ?_
      refine lv_goto (tgt := 21) hx hb d_M_read_17 (by decide) ?_
      exact z_iret (wf := fun _ : Unit => (wM bd G st ++ wr)) (u := ()) hx hb hr hlocks h0 hw rfl (by rw [m_read, if_neg c_5, if_pos c_13]) (Nat.le_of_ble_eq_true rfl) (Nat.le_of_ble_eq_true rfl) d_M_read_21

end MC
