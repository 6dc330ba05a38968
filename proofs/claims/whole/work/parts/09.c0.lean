section CON
set_option maxHeartbeats 4000000 in
set_option maxRecDepth 100000 in
theorem c_S_isWithin (l : Launch) (G : gG) (ws : va_W) (sz : Nat) (p1 : Int32) (p2 : Int32) (p3 : Int32)  : Met l y_S_isWithin w_S_isWithin { frames := 0, cells := 0, slots := 0, locals := 0 } (va_Pc [.int p1, .int p2, .int p3] (z_pre G ws sz)) (z_Qi0 G ws sz ws (f_isWithin p1 p2 p3)) 0 0 (va_A ws sz) := by
  refine Met.ofW (cc := b_S_isWithin) (maxL := 3) (ret := (some .boolean)) (by decide) rfl ?_
  intro p e s m args below meth c s₁ B hml hv
  obtain ⟨rfl, hsz, hP, hK, hD0, ham⟩ := hv
  subst hsz
  have hx := B.exec
  have hb := B.bytes
  have hr := B.returns
  have hts : ∀ w ∈ goT, w.before _ s = true := fun w h => atoms_spec (ws := w_S_isWithin) B.pre w (List.mem_cons_of_mem _ h)
  have hg : ∀ w, goB w = true → w.before _ s = true := fun w h => hts w (goI h)
  have hown : s.vm.findClass R_S = some m.cls := findClass_of_methodNamed B.named
  have hlocks := B.notSynchronized
  have h0 : z_st G ws s := ⟨hK, ham⟩
  have hw : z_wl G ws s ws s.heap [] := z_0 hP hD0
  have hl := lv_entry ([.int p1, .int p2, .int p3]) (n := 3) (Nat.le_of_ble_eq_true rfl)
  rw [lg_entry_eq]
  generalize (lg_sl ([.int p1, .int p2, .int p3]) ++ List.replicate (3 - (lg_sl ([.int p1, .int p2, .int p3])).length) Slot.unset).toArray = ls at hl ⊢
  have hl : lv_has ls 3 [(0, .int p1), (1, .int p2), (2, .int p3)] := hl
  refine lv_iload_n hx hb d_S_isWithin_0 rfl (lv_at hl 0 rfl) ?_
  refine lv_iload_n hx hb d_S_isWithin_1 rfl (lv_at hl 1 rfl) ?_
  refine lv_icmp_lt (tgt := 14) hx hb d_S_isWithin_2 (by decide) (fun c_2 => ?_) (fun c_2 => ?_)
  · refine lv_iconst (v := 0) hx hb d_S_isWithin_14 (by decide) ?_
    exact z_iret (wf := fun _ : Unit => ws) (u := ()) hx hb hr hlocks h0 hw rfl (by rw [f_isWithin, if_pos c_2]) (Nat.le_of_ble_eq_true rfl) (Nat.le_of_ble_eq_true rfl) d_S_isWithin_15
  · refine lv_iload_n hx hb d_S_isWithin_5 rfl (lv_at hl 0 rfl) ?_
    refine lv_iload_n hx hb d_S_isWithin_6 rfl (lv_at hl 2 rfl) ?_
    refine lv_icmp_gt (tgt := 14) hx hb d_S_isWithin_7 (by decide) (fun c_7 => ?_) (fun c_7 => ?_)
    · refine lv_iconst (v := 0) hx hb d_S_isWithin_14 (by decide) ?_
      exact z_iret (wf := fun _ : Unit => ws) (u := ()) hx hb hr hlocks h0 hw rfl (by rw [f_isWithin, if_neg c_2, if_pos c_7]) (Nat.le_of_ble_eq_true rfl) (Nat.le_of_ble_eq_true rfl) d_S_isWithin_15
    · refine lv_iconst (v := 1) hx hb d_S_isWithin_10 (by decide) ?_
      refine lv_goto (tgt := 15) hx hb d_S_isWithin_11 (by decide) ?_
      exact z_iret (wf := fun _ : Unit => ws) (u := ()) hx hb hr hlocks h0 hw rfl (by rw [f_isWithin, if_neg c_2, if_neg c_7]) (Nat.le_of_ble_eq_true rfl) (Nat.le_of_ble_eq_true rfl) d_S_isWithin_15
set_option maxHeartbeats 4000000 in
set_option maxRecDepth 100000 in
theorem c_S_asNumber (l : Launch) (G : gG) (ws : va_W) (sz : Nat) (p1 : Int32)  : Met l y_S_asNumber w_S_asNumber { frames := 0, cells := 0, slots := 0, locals := 0 } (va_Pc [.int p1] (z_pre G ws sz)) (z_Qi0 G ws sz ws (f_asNumber p1)) 0 0 (va_A ws sz) := by
  refine Met.ofW (cc := b_S_asNumber) (maxL := 1) (ret := (some .int)) (by decide) rfl ?_
  intro p e s m args below meth c s₁ B hml hv
  obtain ⟨rfl, hsz, hP, hK, hD0, ham⟩ := hv
  subst hsz
  have hx := B.exec
  have hb := B.bytes
  have hr := B.returns
  have hts : ∀ w ∈ goT, w.before _ s = true := fun w h => atoms_spec (ws := w_S_asNumber) B.pre w (List.mem_cons_of_mem _ h)
  have hg : ∀ w, goB w = true → w.before _ s = true := fun w h => hts w (goI h)
  have hown : s.vm.findClass R_S = some m.cls := findClass_of_methodNamed B.named
  have hlocks := B.notSynchronized
  have h0 : z_st G ws s := ⟨hK, ham⟩
  have hw : z_wl G ws s ws s.heap [] := z_0 hP hD0
  have hl := lv_entry ([.int p1]) (n := 1) (Nat.le_of_ble_eq_true rfl)
  rw [lg_entry_eq]
  generalize (lg_sl ([.int p1]) ++ List.replicate (1 - (lg_sl ([.int p1])).length) Slot.unset).toArray = ls at hl ⊢
  have hl : lv_has ls 1 [(0, .int p1)] := hl
  refine lv_iload_n hx hb d_S_asNumber_0 rfl (lv_at hl 0 rfl) ?_
  refine lv_if_eq (tgt := 8) hx hb d_S_asNumber_1 (by decide) (fun c_1 => ?_) (fun c_1 => ?_)
  · refine lv_iconst (v := 0) hx hb d_S_asNumber_8 (by decide) ?_
    exact z_iret (wf := fun _ : Unit => ws) (u := ()) hx hb hr hlocks h0 hw rfl (by rw [f_asNumber, if_pos c_1]) (Nat.le_of_ble_eq_true rfl) (Nat.le_of_ble_eq_true rfl) d_S_asNumber_9
  · refine lv_iconst (v := 1) hx hb d_S_asNumber_4 (by decide) ?_
    refine lv_goto (tgt := 9) hx hb d_S_asNumber_5 (by decide) ?_
    exact z_iret (wf := fun _ : Unit => ws) (u := ()) hx hb hr hlocks h0 hw rfl (by rw [f_asNumber, if_neg c_1]) (Nat.le_of_ble_eq_true rfl) (Nat.le_of_ble_eq_true rfl) d_S_asNumber_9
set_option maxHeartbeats 4000000 in
set_option maxRecDepth 100000 in
theorem c_S_areCertificateNumbers (l : Launch) (G : gG) (ws : va_W) (sz : Nat) (p1 : Int32) (p2 : Int32) (p3 : Int32) (p4 : Int32) (p5 : Int32) (p6 : Int32)  : Met l y_S_areCertificateNumbers w_S_areCertificateNumbers { frames := 1, cells := 0, slots := 0, locals := 22 } (va_Pc [.int p1, .int p2, .int p3, .int p4, .int p5, .int p6] (z_pre G ws sz)) (z_Qi0 G ws sz ws (f_areCertificateNumbers p1 p2 p3 p4 p5 p6)) 0 0 (va_A ws sz) := by
  refine Met.ofW (cc := b_S_areCertificateNumbers) (maxL := 6) (ret := (some .boolean)) (by decide) rfl ?_
  intro p e s m args below meth c s₁ B hml hv
  obtain ⟨rfl, hsz, hP, hK, hD0, ham⟩ := hv
  subst hsz
  have hx := B.exec
  have hb := B.bytes
  have hr := B.returns
  have hts : ∀ w ∈ goT, w.before _ s = true := fun w h => atoms_spec (ws := w_S_areCertificateNumbers) B.pre w (List.mem_cons_of_mem _ h)
  have hg : ∀ w, goB w = true → w.before _ s = true := fun w h => hts w (goI h)
  have hown : s.vm.findClass R_S = some m.cls := findClass_of_methodNamed B.named
  have hlocks := B.notSynchronized
  have h0 : z_st G ws s := ⟨hK, ham⟩
  have hw : z_wl G ws s ws s.heap [] := z_0 hP hD0
  have hl := lv_entry ([.int p1, .int p2, .int p3, .int p4, .int p5, .int p6]) (n := 6) (Nat.le_of_ble_eq_true rfl)
  rw [lg_entry_eq]
  generalize (lg_sl ([.int p1, .int p2, .int p3, .int p4, .int p5, .int p6]) ++ List.replicate (6 - (lg_sl ([.int p1, .int p2, .int p3, .int p4, .int p5, .int p6])).length) Slot.unset).toArray = ls at hl ⊢
  have hl : lv_has ls 6 [(0, .int p1), (1, .int p2), (2, .int p3), (3, .int p4), (4, .int p5), (5, .int p6)] := hl
  refine lv_iload_n hx hb d_S_areCertificateNumbers_0 rfl (lv_at hl 0 rfl) ?_
  refine lv_iconst (v := 0) hx hb d_S_areCertificateNumbers_1 (by decide) ?_
  refine lv_iconst (v := 3) hx hb d_S_areCertificateNumbers_2 (by decide) ?_
  refine z_Si0 (As := [.int p1, .int 0, .int 3]) (v := (f_isWithin p1 0 3)) ⟨hx, hb, hml, hown, hts⟩ (c_S_isWithin l G ws _ p1 0 3) (cwS 3 hts gS_S_69 rfl rfl rfl (by decide +kernel) ⟨Nat.le_of_ble_eq_true rfl, Nat.le_of_ble_eq_true rfl⟩) h0 hw rfl hl.1 rfl (Nat.le_of_ble_eq_true rfl) d_S_areCertificateNumbers_3 ⟨Nat.le_of_ble_eq_true rfl, Nat.le_of_ble_eq_true rfl⟩ (fun H locs hw => ?_)
  refine lv_if_eq (tgt := 65) hx hb d_S_areCertificateNumbers_6 (by decide) (fun c_6 => ?_) (fun c_6 => ?_)
  · refine lv_iconst (v := 0) hx hb d_S_areCertificateNumbers_65 (by decide) ?_
    exact z_iret (wf := fun _ : Unit => ws) (u := ()) hx hb hr hlocks h0 hw rfl (by rw [f_areCertificateNumbers, if_pos c_6]) (Nat.le_of_ble_eq_true rfl) (Nat.le_of_ble_eq_true rfl) d_S_areCertificateNumbers_66
  · refine lv_iload_n hx hb d_S_areCertificateNumbers_9 rfl (lv_at hl 1 rfl) ?_
    refine lv_iconst (v := 0) hx hb d_S_areCertificateNumbers_10 (by decide) ?_
    refine lv_bipush (v := 6) hx hb d_S_areCertificateNumbers_11 (by decide) ?_
    refine z_Si0 (As := [.int p2, .int 0, .int 6]) (v := (f_isWithin p2 0 6)) ⟨hx, hb, hml, hown, hts⟩ (c_S_isWithin l G ws _ p2 0 6) (cwS 3 hts gS_S_69 rfl rfl rfl (by decide +kernel) ⟨Nat.le_of_ble_eq_true rfl, Nat.le_of_ble_eq_true rfl⟩) h0 hw rfl hl.1 rfl (Nat.le_of_ble_eq_true rfl) d_S_areCertificateNumbers_13 ⟨Nat.le_of_ble_eq_true rfl, Nat.le_of_ble_eq_true rfl⟩ (fun H locs hw => ?_)
    refine lv_if_eq (tgt := 65) hx hb d_S_areCertificateNumbers_16 (by decide) (fun c_16 => ?_) (fun c_16 => ?_)
    · refine lv_iconst (v := 0) hx hb d_S_areCertificateNumbers_65 (by decide) ?_
      exact z_iret (wf := fun _ : Unit => ws) (u := ()) hx hb hr hlocks h0 hw rfl (by rw [f_areCertificateNumbers, if_neg c_6, if_pos c_16]) (Nat.le_of_ble_eq_true rfl) (Nat.le_of_ble_eq_true rfl) d_S_areCertificateNumbers_66
    · refine lv_iload_n hx hb d_S_areCertificateNumbers_19 rfl (lv_at hl 2 rfl) ?_
      refine lv_iconst (v := 0) hx hb d_S_areCertificateNumbers_20 (by decide) ?_
      refine lv_bipush (v := 99) hx hb d_S_areCertificateNumbers_21 (by decide) ?_
      refine z_Si0 (As := [.int p3, .int 0, .int 99]) (v := (f_isWithin p3 0 99)) ⟨hx, hb, hml, hown, hts⟩ (c_S_isWithin l G ws _ p3 0 99) (cwS 3 hts gS_S_69 rfl rfl rfl (by decide +kernel) ⟨Nat.le_of_ble_eq_true rfl, Nat.le_of_ble_eq_true rfl⟩) h0 hw rfl hl.1 rfl (Nat.le_of_ble_eq_true rfl) d_S_areCertificateNumbers_23 ⟨Nat.le_of_ble_eq_true rfl, Nat.le_of_ble_eq_true rfl⟩ (fun H locs hw => ?_)
      refine lv_if_eq (tgt := 65) hx hb d_S_areCertificateNumbers_26 (by decide) (fun c_26 => ?_) (fun c_26 => ?_)
      · refine lv_iconst (v := 0) hx hb d_S_areCertificateNumbers_65 (by decide) ?_
        exact z_iret (wf := fun _ : Unit => ws) (u := ()) hx hb hr hlocks h0 hw rfl (by rw [f_areCertificateNumbers, if_neg c_6, if_neg c_16, if_pos c_26]) (Nat.le_of_ble_eq_true rfl) (Nat.le_of_ble_eq_true rfl) d_S_areCertificateNumbers_66
      · refine lv_iload_n hx hb d_S_areCertificateNumbers_29 rfl (lv_at hl 3 rfl) ?_
        refine lv_iconst (v := 0) hx hb d_S_areCertificateNumbers_30 (by decide) ?_
        refine lv_ldc hx hb hown (hg (.constant R_S 130 65535) (by decide +kernel)) d_S_areCertificateNumbers_31 ?_
        refine z_Si0 (As := [.int p4, .int 0, .int 65535]) (v := (f_isWithin p4 0 65535)) ⟨hx, hb, hml, hown, hts⟩ (c_S_isWithin l G ws _ p4 0 65535) (cwS 3 hts gS_S_69 rfl rfl rfl (by decide +kernel) ⟨Nat.le_of_ble_eq_true rfl, Nat.le_of_ble_eq_true rfl⟩) h0 hw rfl hl.1 rfl (Nat.le_of_ble_eq_true rfl) d_S_areCertificateNumbers_33 ⟨Nat.le_of_ble_eq_true rfl, Nat.le_of_ble_eq_true rfl⟩ (fun H locs hw => ?_)
        refine lv_if_eq (tgt := 65) hx hb d_S_areCertificateNumbers_36 (by decide) (fun c_36 => ?_) (fun c_36 => ?_)
        · refine lv_iconst (v := 0) hx hb d_S_areCertificateNumbers_65 (by decide) ?_
          exact z_iret (wf := fun _ : Unit => ws) (u := ()) hx hb hr hlocks h0 hw rfl (by rw [f_areCertificateNumbers, if_neg c_6, if_neg c_16, if_neg c_26, if_pos c_36]) (Nat.le_of_ble_eq_true rfl) (Nat.le_of_ble_eq_true rfl) d_S_areCertificateNumbers_66
        · refine lv_iload hx hb d_S_areCertificateNumbers_39 (lv_at hl 4 rfl) ?_
          refine lv_iconst (v := 0) hx hb d_S_areCertificateNumbers_41 (by decide) ?_
          refine lv_ldc hx hb hown (hg (.constant R_S 183 100000) (by decide +kernel)) d_S_areCertificateNumbers_42 ?_
          refine z_Si0 (As := [.int p5, .int 0, .int 100000]) (v := (f_isWithin p5 0 100000)) ⟨hx, hb, hml, hown, hts⟩ (c_S_isWithin l G ws _ p5 0 100000) (cwS 3 hts gS_S_69 rfl rfl rfl (by decide +kernel) ⟨Nat.le_of_ble_eq_true rfl, Nat.le_of_ble_eq_true rfl⟩) h0 hw rfl hl.1 rfl (Nat.le_of_ble_eq_true rfl) d_S_areCertificateNumbers_44 ⟨Nat.le_of_ble_eq_true rfl, Nat.le_of_ble_eq_true rfl⟩ (fun H locs hw => ?_)
          refine lv_if_eq (tgt := 65) hx hb d_S_areCertificateNumbers_47 (by decide) (fun c_47 => ?_) (fun c_47 => ?_)
          · refine lv_iconst (v := 0) hx hb d_S_areCertificateNumbers_65 (by decide) ?_
            exact z_iret (wf := fun _ : Unit => ws) (u := ()) hx hb hr hlocks h0 hw rfl (by rw [f_areCertificateNumbers, if_neg c_6, if_neg c_16, if_neg c_26, if_neg c_36, if_pos c_47]) (Nat.le_of_ble_eq_true rfl) (Nat.le_of_ble_eq_true rfl) d_S_areCertificateNumbers_66
          · refine lv_iload hx hb d_S_areCertificateNumbers_50 (lv_at hl 5 rfl) ?_
            refine lv_iconst (v := 0) hx hb d_S_areCertificateNumbers_52 (by decide) ?_
            refine lv_ldc hx hb hown (hg (.constant R_S 183 100000) (by decide +kernel)) d_S_areCertificateNumbers_53 ?_
            refine z_Si0 (As := [.int p6, .int 0, .int 100000]) (v := (f_isWithin p6 0 100000)) ⟨hx, hb, hml, hown, hts⟩ (c_S_isWithin l G ws _ p6 0 100000) (cwS 3 hts gS_S_69 rfl rfl rfl (by decide +kernel) ⟨Nat.le_of_ble_eq_true rfl, Nat.le_of_ble_eq_true rfl⟩) h0 hw rfl hl.1 rfl (Nat.le_of_ble_eq_true rfl) d_S_areCertificateNumbers_55 ⟨Nat.le_of_ble_eq_true rfl, Nat.le_of_ble_eq_true rfl⟩ (fun H locs hw => ?_)
            refine lv_if_eq (tgt := 65) hx hb d_S_areCertificateNumbers_58 (by decide) (fun c_58 => ?_) (fun c_58 => ?_)
            · refine lv_iconst (v := 0) hx hb d_S_areCertificateNumbers_65 (by decide) ?_
              exact z_iret (wf := fun _ : Unit => ws) (u := ()) hx hb hr hlocks h0 hw rfl (by rw [f_areCertificateNumbers, if_neg c_6, if_neg c_16, if_neg c_26, if_neg c_36, if_neg c_47, if_pos c_58]) (Nat.le_of_ble_eq_true rfl) (Nat.le_of_ble_eq_true rfl) d_S_areCertificateNumbers_66
            · refine lv_iconst (v := 1) hx hb d_S_areCertificateNumbers_61 (by decide) ?_
              refine lv_goto (tgt := 66) hx hb d_S_areCertificateNumbers_62 (by decide) ?_
              exact z_iret (wf := fun _ : Unit => ws) (u := ()) hx hb hr hlocks h0 hw rfl (by rw [f_areCertificateNumbers, if_neg c_6, if_neg c_16, if_neg c_26, if_neg c_36, if_neg c_47, if_neg c_58]) (Nat.le_of_ble_eq_true rfl) (Nat.le_of_ble_eq_true rfl) d_S_areCertificateNumbers_66
set_option maxHeartbeats 4000000 in
set_option maxRecDepth 100000 in
theorem c_S_requireToken (l : Launch) (hl9 : l.stackTraces = false) (G : gG) (ws : va_W) (sz : Nat) (p1 : Int32)  : vx_Met l y_S_requireToken w_S_requireToken { frames := 6, cells := 1, slots := 6, locals := 81 } (va_Pc [.int p1] (z_pre G ws sz)) (z_Qn G ws sz (f_requireToken p1 = none)) (z_X G ws sz (fun E => f_requireToken p1 = some E)) 1 6 (va_A ws sz) := by
  refine vx_ofW (cc := b_S_requireToken) (maxL := 1) (ret := none) (by decide) rfl ?_
  intro p e s m args below meth c s₁ B hml hex hv
  obtain ⟨rfl, hsz, hP, hK, hD0, ham⟩ := hv
  subst hsz
  have hx := B.exec
  have hb := B.bytes
  have hr := B.returns
  have hts : ∀ w ∈ goT, w.before _ s = true := fun w h => atoms_spec (ws := w_S_requireToken) B.pre w (List.mem_cons_of_mem _ h)
  have hg : ∀ w, goB w = true → w.before _ s = true := fun w h => hts w (goI h)
  have hown : s.vm.findClass R_S = some m.cls := findClass_of_methodNamed B.named
  have hlocks := B.notSynchronized
  have h0 : z_st G ws s := ⟨hK, ham⟩
  have hw : z_wl G ws s ws s.heap [] := z_0 hP hD0
  have hl := lv_entry ([.int p1]) (n := 1) (Nat.le_of_ble_eq_true rfl)
  rw [lg_entry_eq]
  generalize (lg_sl ([.int p1]) ++ List.replicate (1 - (lg_sl ([.int p1])).length) Slot.unset).toArray = ls at hl ⊢
  have hl : lv_has ls 1 [(0, .int p1)] := hl
  refine lv_iload_n hx hb d_S_requireToken_0 rfl (lv_at hl 0 rfl) ?_
  refine lv_iconst (v := 0) hx hb d_S_requireToken_1 (by decide) ?_
  refine lv_iconst (v := 5) hx hb d_S_requireToken_2 (by decide) ?_
  refine z_Si0 (As := [.int p1, .int 0, .int 5]) (v := (f_isWithin p1 0 5)) ⟨hx, hb, hml, hown, hts⟩ (c_S_isWithin l G ws _ p1 0 5) (cwS 3 hts gS_S_69 rfl rfl rfl (by decide +kernel) ⟨Nat.le_of_ble_eq_true rfl, Nat.le_of_ble_eq_true rfl⟩) h0 hw rfl hl.1 rfl (Nat.le_of_ble_eq_true rfl) d_S_requireToken_3 ⟨Nat.le_of_ble_eq_true rfl, Nat.le_of_ble_eq_true rfl⟩ (fun H locs hw => ?_)
  refine lv_if_ne (tgt := 17) hx hb d_S_requireToken_6 (by decide) (fun c_6 => ?_) (fun c_6 => ?_)
  · exact vx_ret (z_vret (wf := fun _ : Unit => ws) (u := ()) hx hb hr hlocks h0 hw (by rw [f_requireToken, if_neg c_6]) (Nat.le_of_ble_eq_true rfl) (Nat.le_of_ble_eq_true rfl) d_S_requireToken_17)
  · exact z_throw0 (cls := "java/util/NoSuchElementException") (ic := 192) hx hb hl9 hown (hg (.classLink R_S 190 "java/util/NoSuchElementException") (by decide +kernel)) (hg (.initialized "java/util/NoSuchElementException") (by decide +kernel)) (hat_S192 hts h0.2.1) (by decide +kernel) h0 hw (hl.1.trans hml.symm) d_S_requireToken_9 d_S_requireToken_12 d_S_requireToken_13 d_S_requireToken_16 hex (Nat.le_of_ble_eq_true rfl) (Nat.le_of_ble_eq_true rfl) (Nat.le_of_ble_eq_true rfl) (Nat.le_of_ble_eq_true rfl) hlocks (by rw [f_requireToken, if_pos c_6]) (Nat.le_of_ble_eq_true rfl) (Nat.le_of_ble_eq_true rfl)
set_option maxHeartbeats 4000000 in
set_option maxRecDepth 100000 in
theorem c_S_requireEmpty (l : Launch) (hl9 : l.stackTraces = false) (G : gG) (ws : va_W) (sz : Nat) (p1 : Int32)  : vx_Met l y_S_requireEmpty w_S_requireEmpty { frames := 6, cells := 1, slots := 6, locals := 81 } (va_Pc [.int p1] (z_pre G ws sz)) (z_Qn G ws sz (f_requireEmpty p1 = none)) (z_X G ws sz (fun E => f_requireEmpty p1 = some E)) 1 6 (va_A ws sz) := by
  refine vx_ofW (cc := b_S_requireEmpty) (maxL := 1) (ret := none) (by decide) rfl ?_
  intro p e s m args below meth c s₁ B hml hex hv
  obtain ⟨rfl, hsz, hP, hK, hD0, ham⟩ := hv
  subst hsz
  have hx := B.exec
  have hb := B.bytes
  have hr := B.returns
  have hts : ∀ w ∈ goT, w.before _ s = true := fun w h => atoms_spec (ws := w_S_requireEmpty) B.pre w (List.mem_cons_of_mem _ h)
  have hg : ∀ w, goB w = true → w.before _ s = true := fun w h => hts w (goI h)
  have hown : s.vm.findClass R_S = some m.cls := findClass_of_methodNamed B.named
  have hlocks := B.notSynchronized
  have h0 : z_st G ws s := ⟨hK, ham⟩
  have hw : z_wl G ws s ws s.heap [] := z_0 hP hD0
  have hl := lv_entry ([.int p1]) (n := 1) (Nat.le_of_ble_eq_true rfl)
  rw [lg_entry_eq]
  generalize (lg_sl ([.int p1]) ++ List.replicate (1 - (lg_sl ([.int p1])).length) Slot.unset).toArray = ls at hl ⊢
  have hl : lv_has ls 1 [(0, .int p1)] := hl
  refine lv_iload_n hx hb d_S_requireEmpty_0 rfl (lv_at hl 0 rfl) ?_
  refine lv_iconst (v := (-1)) hx hb d_S_requireEmpty_1 (by decide) ?_
  refine lv_icmp_eq (tgt := 13) hx hb d_S_requireEmpty_2 (by decide) (fun c_2 => ?_) (fun c_2 => ?_)
  · exact vx_ret (z_vret (wf := fun _ : Unit => ws) (u := ()) hx hb hr hlocks h0 hw (by rw [f_requireEmpty, if_pos c_2]) (Nat.le_of_ble_eq_true rfl) (Nat.le_of_ble_eq_true rfl) d_S_requireEmpty_13)
  · exact z_throw0 (cls := "java/lang/IllegalStateException") (ic := 93) hx hb hl9 hown (hg (.classLink R_S 91 "java/lang/IllegalStateException") (by decide +kernel)) (hg (.initialized "java/lang/IllegalStateException") (by decide +kernel)) (hat_S93 hts h0.2.1) (by decide +kernel) h0 hw (hl.1.trans hml.symm) d_S_requireEmpty_5 d_S_requireEmpty_8 d_S_requireEmpty_9 d_S_requireEmpty_12 hex (Nat.le_of_ble_eq_true rfl) (Nat.le_of_ble_eq_true rfl) (Nat.le_of_ble_eq_true rfl) (Nat.le_of_ble_eq_true rfl) hlocks (by rw [f_requireEmpty, if_neg c_2]) (Nat.le_of_ble_eq_true rfl) (Nat.le_of_ble_eq_true rfl)
set_option maxHeartbeats 4000000 in
set_option maxRecDepth 100000 in
theorem c_S_requireFilled (l : Launch) (hl9 : l.stackTraces = false) (G : gG) (ws : va_W) (sz : Nat) (p1 : Int32)  : vx_Met l y_S_requireFilled w_S_requireFilled { frames := 6, cells := 1, slots := 6, locals := 81 } (va_Pc [.int p1] (z_pre G ws sz)) (z_Qn G ws sz (f_requireFilled p1 = none)) (z_X G ws sz (fun E => f_requireFilled p1 = some E)) 1 6 (va_A ws sz) := by
  refine vx_ofW (cc := b_S_requireFilled) (maxL := 1) (ret := none) (by decide) rfl ?_
  intro p e s m args below meth c s₁ B hml hex hv
  obtain ⟨rfl, hsz, hP, hK, hD0, ham⟩ := hv
  subst hsz
  have hx := B.exec
  have hb := B.bytes
  have hr := B.returns
  have hts : ∀ w ∈ goT, w.before _ s = true := fun w h => atoms_spec (ws := w_S_requireFilled) B.pre w (List.mem_cons_of_mem _ h)
  have hg : ∀ w, goB w = true → w.before _ s = true := fun w h => hts w (goI h)
  have hown : s.vm.findClass R_S = some m.cls := findClass_of_methodNamed B.named
  have hlocks := B.notSynchronized
  have h0 : z_st G ws s := ⟨hK, ham⟩
  have hw : z_wl G ws s ws s.heap [] := z_0 hP hD0
  have hl := lv_entry ([.int p1]) (n := 1) (Nat.le_of_ble_eq_true rfl)
  rw [lg_entry_eq]
  generalize (lg_sl ([.int p1]) ++ List.replicate (1 - (lg_sl ([.int p1])).length) Slot.unset).toArray = ls at hl ⊢
  have hl : lv_has ls 1 [(0, .int p1)] := hl
  refine lv_iload_n hx hb d_S_requireFilled_0 rfl (lv_at hl 0 rfl) ?_
  refine lv_iconst (v := (-1)) hx hb d_S_requireFilled_1 (by decide) ?_
  refine lv_icmp_ne (tgt := 13) hx hb d_S_requireFilled_2 (by decide) (fun c_2 => ?_) (fun c_2 => ?_)
  · exact vx_ret (z_vret (wf := fun _ : Unit => ws) (u := ()) hx hb hr hlocks h0 hw (by rw [f_requireFilled, if_neg c_2]) (Nat.le_of_ble_eq_true rfl) (Nat.le_of_ble_eq_true rfl) d_S_requireFilled_13)
  · exact z_throw0 (cls := "java/lang/IllegalStateException") (ic := 93) hx hb hl9 hown (hg (.classLink R_S 91 "java/lang/IllegalStateException") (by decide +kernel)) (hg (.initialized "java/lang/IllegalStateException") (by decide +kernel)) (hat_S93 hts h0.2.1) (by decide +kernel) h0 hw (hl.1.trans hml.symm) d_S_requireFilled_5 d_S_requireFilled_8 d_S_requireFilled_9 d_S_requireFilled_12 hex (Nat.le_of_ble_eq_true rfl) (Nat.le_of_ble_eq_true rfl) (Nat.le_of_ble_eq_true rfl) (Nat.le_of_ble_eq_true rfl) hlocks (by rw [f_requireFilled, if_pos c_2]) (Nat.le_of_ble_eq_true rfl) (Nat.le_of_ble_eq_true rfl)
set_option maxHeartbeats 4000000 in
set_option maxRecDepth 100000 in
theorem c_S_requireInNoReader (l : Launch) (hl9 : l.stackTraces = false) (G : gG) (ad : Nat → Nat) (st : CS) (wr : va_W) (sz : Nat) (p1 : Int32)  : vx_Met l y_S_requireInNoReader w_S_requireInNoReader { frames := 6, cells := 1, slots := 6, locals := 81 } (va_Pc [.ref (ad 0), .int p1] (z_pre G (wC ad G st ++ wr) sz)) (z_Qn G (wC ad G st ++ wr) sz (f_requireInNoReader st p1 = none)) (z_X G (wC ad G st ++ wr) sz (fun E => f_requireInNoReader st p1 = some E)) 1 6 (va_A (wC ad G st ++ wr) sz) := by
  refine vx_ofW (cc := b_S_requireInNoReader) (maxL := 2) (ret := none) (by decide) rfl ?_
  intro p e s m args below meth c s₁ B hml hex hv
  obtain ⟨rfl, hsz, hP, hK, hD0, ham⟩ := hv
  subst hsz
  have hx := B.exec
  have hb := B.bytes
  have hr := B.returns
  have hts : ∀ w ∈ goT, w.before _ s = true := fun w h => atoms_spec (ws := w_S_requireInNoReader) B.pre w (List.mem_cons_of_mem _ h)
  have hg : ∀ w, goB w = true → w.before _ s = true := fun w h => hts w (goI h)
  have hown : s.vm.findClass R_S = some m.cls := findClass_of_methodNamed B.named
  have hlocks := B.notSynchronized
  have h0 : z_st G (wC ad G st ++ wr) s := ⟨hK, ham⟩
  have hw : z_wl G (wC ad G st ++ wr) s (wC ad G st ++ wr) s.heap [] := z_0 hP hD0
  have hl := lv_entry ([.ref (ad 0), .int p1]) (n := 2) (Nat.le_of_ble_eq_true rfl)
  rw [lg_entry_eq]
  generalize (lg_sl ([.ref (ad 0), .int p1]) ++ List.replicate (2 - (lg_sl ([.ref (ad 0), .int p1])).length) Slot.unset).toArray = ls at hl ⊢
  have hl : lv_has ls 2 [(0, .ref (ad 0)), (1, .int p1)] := hl
  refine lv_iload_n hx hb d_S_requireInNoReader_0 rfl (lv_at hl 1 rfl) ?_
  refine lv_aload_n hx hb d_S_requireInNoReader_1 rfl (lv_at hl 0 rfl) ?_
  refine va_get (D := G.1) (ci := 2) (v := .int (st.1 8)) (C := R_S) (T := T_S) (N := 14) hx hb hts in_S hown h0.1 hw.1 0 rfl rfl 8 (by decide) (hg (.fieldLink R_S 41 "SecureEntry" "outerToken" "I") (by decide +kernel)) (fun _ h9 => h9) rfl d_S_requireInNoReader_2 ?_
  refine lv_icmp_eq (tgt := 16) hx hb d_S_requireInNoReader_5 (by decide) (fun c_5 => ?_) (fun c_5 => ?_)
  · exact z_throw0 (cls := "java/lang/IllegalStateException") (ic := 93) hx hb hl9 hown (hg (.classLink R_S 91 "java/lang/IllegalStateException") (by decide +kernel)) (hg (.initialized "java/lang/IllegalStateException") (by decide +kernel)) (hat_S93 hts h0.2.1) (by decide +kernel) h0 hw (hl.1.trans hml.symm) d_S_requireInNoReader_16 d_S_requireInNoReader_19 d_S_requireInNoReader_20 d_S_requireInNoReader_23 hex (Nat.le_of_ble_eq_true rfl) (Nat.le_of_ble_eq_true rfl) (Nat.le_of_ble_eq_true rfl) (Nat.le_of_ble_eq_true rfl) hlocks (by rw [f_requireInNoReader, if_pos c_5]) (Nat.le_of_ble_eq_true rfl) (Nat.le_of_ble_eq_true rfl)
  · refine lv_iload_n hx hb d_S_requireInNoReader_8 rfl (lv_at hl 1 rfl) ?_
    refine lv_aload_n hx hb d_S_requireInNoReader_9 rfl (lv_at hl 0 rfl) ?_
    refine va_get (D := G.1) (ci := 2) (v := .int (st.1 9)) (C := R_S) (T := T_S) (N := 14) hx hb hts in_S hown h0.1 hw.1 0 rfl rfl 9 (by decide) (hg (.fieldLink R_S 44 "SecureEntry" "innerToken" "I") (by decide +kernel)) (fun _ h9 => h9) rfl d_S_requireInNoReader_10 ?_
    refine lv_icmp_ne (tgt := 24) hx hb d_S_requireInNoReader_13 (by decide) (fun c_13 => ?_) (fun c_13 => ?_)
    · exact vx_ret (z_vret (wf := fun _ : Unit => (wC ad G st ++ wr)) (u := ()) hx hb hr hlocks h0 hw (by rw [f_requireInNoReader, if_neg c_5, if_neg c_13]) (Nat.le_of_ble_eq_true rfl) (Nat.le_of_ble_eq_true rfl) d_S_requireInNoReader_24)
    · exact z_throw0 (cls := "java/lang/IllegalStateException") (ic := 93) hx hb hl9 hown (hg (.classLink R_S 91 "java/lang/IllegalStateException") (by decide +kernel)) (hg (.initialized "java/lang/IllegalStateException") (by decide +kernel)) (hat_S93 hts h0.2.1) (by decide +kernel) h0 hw (hl.1.trans hml.symm) d_S_requireInNoReader_16 d_S_requireInNoReader_19 d_S_requireInNoReader_20 d_S_requireInNoReader_23 hex (Nat.le_of_ble_eq_true rfl) (Nat.le_of_ble_eq_true rfl) (Nat.le_of_ble_eq_true rfl) (Nat.le_of_ble_eq_true rfl) hlocks (by rw [f_requireInNoReader, if_neg c_5, if_pos c_13]) (Nat.le_of_ble_eq_true rfl) (Nat.le_of_ble_eq_true rfl)
set_option maxHeartbeats 4000000 in
set_option maxRecDepth 100000 in
theorem c_S_requireUp (l : Launch) (hl9 : l.stackTraces = false) (G : gG) (ad : Nat → Nat) (st : CS) (wr : va_W) (sz : Nat)   : vx_Met l y_S_requireUp w_S_requireUp { frames := 6, cells := 1, slots := 6, locals := 81 } (va_Pc [.ref (ad 0)] (z_pre G (wC ad G st ++ wr) sz)) (z_Qn G (wC ad G st ++ wr) sz (f_requireUp st = none)) (z_X G (wC ad G st ++ wr) sz (fun E => f_requireUp st = some E)) 1 6 (va_A (wC ad G st ++ wr) sz) := by
  refine vx_ofW (cc := b_S_requireUp) (maxL := 1) (ret := none) (by decide) rfl ?_
  intro p e s m args below meth c s₁ B hml hex hv
  obtain ⟨rfl, hsz, hP, hK, hD0, ham⟩ := hv
  subst hsz
  have hx := B.exec
  have hb := B.bytes
  have hr := B.returns
  have hts : ∀ w ∈ goT, w.before _ s = true := fun w h => atoms_spec (ws := w_S_requireUp) B.pre w (List.mem_cons_of_mem _ h)
  have hg : ∀ w, goB w = true → w.before _ s = true := fun w h => hts w (goI h)
  have hown : s.vm.findClass R_S = some m.cls := findClass_of_methodNamed B.named
  have hlocks := B.notSynchronized
  have h0 : z_st G (wC ad G st ++ wr) s := ⟨hK, ham⟩
  have hw : z_wl G (wC ad G st ++ wr) s (wC ad G st ++ wr) s.heap [] := z_0 hP hD0
  have hl := lv_entry ([.ref (ad 0)]) (n := 1) (Nat.le_of_ble_eq_true rfl)
  rw [lg_entry_eq]
  generalize (lg_sl ([.ref (ad 0)]) ++ List.replicate (1 - (lg_sl ([.ref (ad 0)])).length) Slot.unset).toArray = ls at hl ⊢
  have hl : lv_has ls 1 [(0, .ref (ad 0))] := hl
  refine lv_aload_n hx hb d_S_requireUp_0 rfl (lv_at hl 0 rfl) ?_
  refine va_get (D := G.1) (ci := 2) (v := .int (st.1 5)) (C := R_S) (T := T_S) (N := 14) hx hb hts in_S hown h0.1 hw.1 0 rfl rfl 5 (by decide) (hg (.fieldLink R_S 87 "SecureEntry" "up" "Z") (by decide +kernel)) (fun _ h9 => h9) rfl d_S_requireUp_1 ?_
  refine lv_if_ne (tgt := 15) hx hb d_S_requireUp_4 (by decide) (fun c_4 => ?_) (fun c_4 => ?_)
  · exact vx_ret (z_vret (wf := fun _ : Unit => (wC ad G st ++ wr)) (u := ()) hx hb hr hlocks h0 hw (by rw [f_requireUp, if_neg c_4]) (Nat.le_of_ble_eq_true rfl) (Nat.le_of_ble_eq_true rfl) d_S_requireUp_15)
  · exact z_throw0 (cls := "java/lang/IllegalStateException") (ic := 93) hx hb hl9 hown (hg (.classLink R_S 91 "java/lang/IllegalStateException") (by decide +kernel)) (hg (.initialized "java/lang/IllegalStateException") (by decide +kernel)) (hat_S93 hts h0.2.1) (by decide +kernel) h0 hw (hl.1.trans hml.symm) d_S_requireUp_7 d_S_requireUp_10 d_S_requireUp_11 d_S_requireUp_14 hex (Nat.le_of_ble_eq_true rfl) (Nat.le_of_ble_eq_true rfl) (Nat.le_of_ble_eq_true rfl) (Nat.le_of_ble_eq_true rfl) hlocks (by rw [f_requireUp, if_pos c_4]) (Nat.le_of_ble_eq_true rfl) (Nat.le_of_ble_eq_true rfl)
set_option maxHeartbeats 4000000 in
set_option maxRecDepth 100000 in
theorem c_S_requireAdministrator (l : Launch) (hl9 : l.stackTraces = false) (G : gG) (ad : Nat → Nat) (st : CS) (wr : va_W) (sz : Nat)   : vx_Met l y_S_requireAdministrator w_S_requireAdministrator { frames := 6, cells := 1, slots := 6, locals := 81 } (va_Pc [.ref (ad 0)] (z_pre G (wC ad G st ++ wr) sz)) (z_Qn G (wC ad G st ++ wr) sz (f_requireAdministrator st = none)) (z_X G (wC ad G st ++ wr) sz (fun E => f_requireAdministrator st = some E)) 1 6 (va_A (wC ad G st ++ wr) sz) := by
  refine vx_ofW (cc := b_S_requireAdministrator) (maxL := 1) (ret := none) (by decide) rfl ?_
  intro p e s m args below meth c s₁ B hml hex hv
  obtain ⟨rfl, hsz, hP, hK, hD0, ham⟩ := hv
  subst hsz
  have hx := B.exec
  have hb := B.bytes
  have hr := B.returns
  have hts : ∀ w ∈ goT, w.before _ s = true := fun w h => atoms_spec (ws := w_S_requireAdministrator) B.pre w (List.mem_cons_of_mem _ h)
  have hg : ∀ w, goB w = true → w.before _ s = true := fun w h => hts w (goI h)
  have hown : s.vm.findClass R_S = some m.cls := findClass_of_methodNamed B.named
  have hlocks := B.notSynchronized
  have h0 : z_st G (wC ad G st ++ wr) s := ⟨hK, ham⟩
  have hw : z_wl G (wC ad G st ++ wr) s (wC ad G st ++ wr) s.heap [] := z_0 hP hD0
  have hl := lv_entry ([.ref (ad 0)]) (n := 1) (Nat.le_of_ble_eq_true rfl)
  rw [lg_entry_eq]
  generalize (lg_sl ([.ref (ad 0)]) ++ List.replicate (1 - (lg_sl ([.ref (ad 0)])).length) Slot.unset).toArray = ls at hl ⊢
  have hl : lv_has ls 1 [(0, .ref (ad 0))] := hl
  refine lv_aload_n hx hb d_S_requireAdministrator_0 rfl (lv_at hl 0 rfl) ?_
  refine va_get (D := G.1) (ci := 2) (v := .int (st.1 10)) (C := R_S) (T := T_S) (N := 14) hx hb hts in_S hown h0.1 hw.1 0 rfl rfl 10 (by decide) (hg (.fieldLink R_S 47 "SecureEntry" "administratorRole" "I") (by decide +kernel)) (fun _ h9 => h9) rfl d_S_requireAdministrator_1 ?_
  refine lv_if_ne (tgt := 15) hx hb d_S_requireAdministrator_4 (by decide) (fun c_4 => ?_) (fun c_4 => ?_)
  · exact vx_ret (z_vret (wf := fun _ : Unit => (wC ad G st ++ wr)) (u := ()) hx hb hr hlocks h0 hw (by rw [f_requireAdministrator, if_neg c_4]) (Nat.le_of_ble_eq_true rfl) (Nat.le_of_ble_eq_true rfl) d_S_requireAdministrator_15)
  · exact z_throw0 (cls := "java/lang/IllegalStateException") (ic := 93) hx hb hl9 hown (hg (.classLink R_S 91 "java/lang/IllegalStateException") (by decide +kernel)) (hg (.initialized "java/lang/IllegalStateException") (by decide +kernel)) (hat_S93 hts h0.2.1) (by decide +kernel) h0 hw (hl.1.trans hml.symm) d_S_requireAdministrator_7 d_S_requireAdministrator_10 d_S_requireAdministrator_11 d_S_requireAdministrator_14 hex (Nat.le_of_ble_eq_true rfl) (Nat.le_of_ble_eq_true rfl) (Nat.le_of_ble_eq_true rfl) (Nat.le_of_ble_eq_true rfl) hlocks (by rw [f_requireAdministrator, if_pos c_4]) (Nat.le_of_ble_eq_true rfl) (Nat.le_of_ble_eq_true rfl)
set_option maxHeartbeats 4000000 in
set_option maxRecDepth 100000 in
theorem c_S_requireRole (l : Launch) (hl9 : l.stackTraces = false) (G : gG) (ad : Nat → Nat) (st : CS) (wr : va_W) (sz : Nat) (p1 : Int32)  : vx_Met l y_S_requireRole w_S_requireRole { frames := 6, cells := 1, slots := 6, locals := 81 } (va_Pc [.ref (ad 0), .int p1] (z_pre G (wC ad G st ++ wr) sz)) (z_Qn G (wC ad G st ++ wr) sz (f_requireRole st p1 = none)) (z_X G (wC ad G st ++ wr) sz (fun E => f_requireRole st p1 = some E)) 1 6 (va_A (wC ad G st ++ wr) sz) := by
  refine vx_ofW (cc := b_S_requireRole) (maxL := 2) (ret := none) (by decide) rfl ?_
  intro p e s m args below meth c s₁ B hml hex hv
  obtain ⟨rfl, hsz, hP, hK, hD0, ham⟩ := hv
  subst hsz
  have hx := B.exec
  have hb := B.bytes
  have hr := B.returns
  have hts : ∀ w ∈ goT, w.before _ s = true := fun w h => atoms_spec (ws := w_S_requireRole) B.pre w (List.mem_cons_of_mem _ h)
  have hg : ∀ w, goB w = true → w.before _ s = true := fun w h => hts w (goI h)
  have hown : s.vm.findClass R_S = some m.cls := findClass_of_methodNamed B.named
  have hlocks := B.notSynchronized
  have h0 : z_st G (wC ad G st ++ wr) s := ⟨hK, ham⟩
  have hw : z_wl G (wC ad G st ++ wr) s (wC ad G st ++ wr) s.heap [] := z_0 hP hD0
  have hl := lv_entry ([.ref (ad 0), .int p1]) (n := 2) (Nat.le_of_ble_eq_true rfl)
  rw [lg_entry_eq]
  generalize (lg_sl ([.ref (ad 0), .int p1]) ++ List.replicate (2 - (lg_sl ([.ref (ad 0), .int p1])).length) Slot.unset).toArray = ls at hl ⊢
  have hl : lv_has ls 2 [(0, .ref (ad 0)), (1, .int p1)] := hl
  refine lv_aload_n hx hb d_S_requireRole_0 rfl (lv_at hl 0 rfl) ?_
  refine va_get (D := G.1) (ci := 2) (v := .int (st.1 10)) (C := R_S) (T := T_S) (N := 14) hx hb hts in_S hown h0.1 hw.1 0 rfl rfl 10 (by decide) (hg (.fieldLink R_S 47 "SecureEntry" "administratorRole" "I") (by decide +kernel)) (fun _ h9 => h9) rfl d_S_requireRole_1 ?_
  refine lv_iload_n hx hb d_S_requireRole_4 rfl (lv_at hl 1 rfl) ?_
  refine lv_icmp_eq (tgt := 16) hx hb d_S_requireRole_5 (by decide) (fun c_5 => ?_) (fun c_5 => ?_)
  · exact vx_ret (z_vret (wf := fun _ : Unit => (wC ad G st ++ wr)) (u := ()) hx hb hr hlocks h0 hw (by rw [f_requireRole, if_pos c_5]) (Nat.le_of_ble_eq_true rfl) (Nat.le_of_ble_eq_true rfl) d_S_requireRole_16)
  · exact z_throw0 (cls := "java/lang/UnsupportedOperationException") (ic := 233) hx hb hl9 hown (hg (.classLink R_S 231 "java/lang/UnsupportedOperationException") (by decide +kernel)) (hg (.initialized "java/lang/UnsupportedOperationException") (by decide +kernel)) (hat_S233 hts h0.2.1) (by decide +kernel) h0 hw (hl.1.trans hml.symm) d_S_requireRole_8 d_S_requireRole_11 d_S_requireRole_12 d_S_requireRole_15 hex (Nat.le_of_ble_eq_true rfl) (Nat.le_of_ble_eq_true rfl) (Nat.le_of_ble_eq_true rfl) (Nat.le_of_ble_eq_true rfl) hlocks (by rw [f_requireRole, if_neg c_5]) (Nat.le_of_ble_eq_true rfl) (Nat.le_of_ble_eq_true rfl)
end CON
