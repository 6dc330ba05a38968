section MC3
set_option maxHeartbeats 4000000 in
set_option maxRecDepth 100000 in
theorem c_M_start (l : Launch) (G : gG) (bd : Nat → Nat) (st : MS) (wr : va_W) (sz : Nat) (hI : InvM st) : Met l y_M_start w_M_start { frames := 1, cells := 0, slots := 0, locals := 23 } (va_Pc [.ref (bd 0)] (z_pre G (wM bd G st ++ wr) sz)) (z_Qi0 G (wM bd G st ++ wr) sz (wM bd G (m_start st).2 ++ wr) (m_start st).1) 0 0 (va_A (wM bd G st ++ wr) sz) := by
  refine Met.ofW (cc := b_M_start) (maxL := 3) (ret := (some .int)) (by decide) rfl ?_
  intro p e s m args below meth c s₁ B hml hv
  obtain ⟨rfl, hsz, hP, hK, hD0, ham⟩ := hv
  subst hsz
  have hx := B.exec
  have hb := B.bytes
  have hr := B.returns
  have hts : ∀ w ∈ goT, w.before _ s = true := fun w h => atoms_spec (ws := w_M_start) B.pre w (List.mem_cons_of_mem _ h)
  have hg : ∀ w, goB w = true → w.before _ s = true := fun w h => hts w (goI h)
  have hown : s.vm.findClass R_M = some m.cls := findClass_of_methodNamed B.named
  have hlocks := B.notSynchronized
  have h0 : z_st G (wM bd G st ++ wr) s := ⟨hK, ham⟩
  have hw : z_wl G (wM bd G st ++ wr) s (wM bd G st ++ wr) s.heap [] := z_0 hP hD0
  have hl := lv_entry ([.ref (bd 0)]) (n := 3) (Nat.le_of_ble_eq_true rfl)
  rw [lg_entry_eq]
  generalize (lg_sl ([.ref (bd 0)]) ++ List.replicate (3 - (lg_sl ([.ref (bd 0)])).length) Slot.unset).toArray = ls at hl ⊢
  have hl : lv_has ls 3 [(0, .ref (bd 0))] := hl
  have loop : (∀ (H : Heap) (locs : List Loc), z_wl G (wM bd G st ++ wr) s (wM bd G (mS st 0 0) ++ wr) H locs → ∀ (ls : Array Slot), lv_has ls 3 [(2, .int (nI 6)), (1, .int (m_enr st 6)), (0, .ref (bd 0))] → W p l e (headSpec w_M_start { frames := 1, cells := 0, slots := 0, locals := 23 }).room s m #[.ref (bd 0)] below meth c H locs 0 0 (MQ below (z_Qi0 G (wM bd G st ++ wr) s.heap.size (wM bd G (m_start st).2 ++ wr) (m_start st).1) #[.ref (bd 0)] s 0 0 (va_A (wM bd G st ++ wr) s.heap.size)) (F0 m 33 ls [])) → ∀ (n i : Nat), i ≤ 6 → 7 ≤ i + n → ∀ (H : Heap) (locs : List Loc), z_wl G (wM bd G st ++ wr) s (wM bd G (mS st 0 0) ++ wr) H locs → ∀ (ls : Array Slot), lv_has ls 3 [(2, .int (nI i)), (1, .int (m_enr st i)), (0, .ref (bd 0))] → W p l e (headSpec w_M_start { frames := 1, cells := 0, slots := 0, locals := 23 }).room s m #[.ref (bd 0)] below meth c H locs 0 0 (MQ below (z_Qi0 G (wM bd G st ++ wr) s.heap.size (wM bd G (m_start st).2 ++ wr) (m_start st).1) #[.ref (bd 0)] s 0 0 (va_A (wM bd G st ++ wr) s.heap.size)) (F0 m 9 ls []) := by
    intro kk n
    induction n with
    | zero => intro i h1 h2; exact absurd h2 (by omega)
    | succ n ih =>
      intro i h1 h2 H locs hw ls hl
      refine lv_iload_n hx hb d_M_start_9 rfl (lv_at hl 0 rfl) ?_
      refine lv_bipush (v := 6) hx hb d_M_start_10 (by decide) ?_
      refine lv_icmp_ge (tgt := 33) hx hb d_M_start_12 (by decide) (fun c_12 => ?_) (fun c_12 => ?_)
      · have hi : i = 6 := Nat.le_antisymm h1 ((nI_leI (by decide) (by omega)).mp (show nI 6 ≤ nI i from c_12))
        subst hi
        exact kk H locs hw ls hl
      · have hi : i < 6 := (nI_ltI (by omega) (by decide)).mp (show nI i < nI 6 from Int32.not_le.mp c_12)
        have hk : vp_in (nI i) 7 := vp_in_nI (by omega) (by decide)
        refine lv_aload_n hx hb d_M_start_15 rfl (lv_at hl 2 rfl) ?_
        refine va_get (D := G.1) (ci := 3) (v := .ref (bd 3)) (C := R_M) (T := T_M) (N := 25) hx hb hts in_M hown h0.1 hw.1 0 rfl rfl 3 (by decide) (hg (.fieldLink R_M 13 "SecureEntryModel" "keys" "[I") (by decide +kernel)) (fun _ h9 => h9) rfl d_M_start_16 ?_
        refine lv_iload_n hx hb d_M_start_19 rfl (lv_at hl 0 rfl) ?_
        refine va_iald (f := (st.2 3)) hx hb h0.1 hw.1 2 0 rfl rfl hk d_M_start_20 ?_
        refine lv_if_le (tgt := 27) hx hb d_M_start_21 (by decide) (fun c_21 => ?_) (fun c_21 => ?_)
        · refine lv_iinc (v := ((nI i) + 1)) (lv' := [(2, .int ((nI i) + 1)), (1, .int (m_enr st i)), (0, .ref (bd 0))]) hx hb d_M_start_27 hl (k := 0) rfl rfl (by decide) rfl (fun ls hl => ?_)
          refine lv_goto (tgt := 9) hx hb d_M_start_30 (by decide) ?_
          have hl := lv_sub hl [0, 1, 2] rfl
          exact ih (i + 1) (by omega) (by omega) H locs hw ls (by rw [m_enr, if_pos c_21, ← nI_1]; exact hl)
        · refine lv_iinc (v := ((m_enr st i) + 1)) (lv' := [(1, .int ((m_enr st i) + 1)), (2, .int (nI i)), (0, .ref (bd 0))]) hx hb d_M_start_24 hl (k := 1) rfl rfl (by decide) rfl (fun ls hl => ?_)
          refine lv_iinc (v := ((nI i) + 1)) (lv' := [(2, .int ((nI i) + 1)), (1, .int ((m_enr st i) + 1)), (0, .ref (bd 0))]) hx hb d_M_start_27 hl (k := 1) rfl rfl (by decide) rfl (fun ls hl => ?_)
          refine lv_goto (tgt := 9) hx hb d_M_start_30 (by decide) ?_
          have hl := lv_sub hl [0, 1, 2] rfl
          exact ih (i + 1) (by omega) (by omega) H locs hw ls (by rw [m_enr, if_neg c_21, ← nI_1]; exact hl)
  refine lv_aload_n hx hb d_M_start_0 rfl (lv_at hl 0 rfl) ?_
  refine lv_iconst (v := 0) hx hb d_M_start_1 (by decide) ?_
  refine va_put (D := G.1) (ci := 3) (v := .int 0) (ty := .int) (C := R_M) (T := T_M) (N := 25) hx hb hts in_M ty_M ty_M_ok n_M hown h0.1 hw.1 hw.2.1 hw.2.2 0 rfl rfl 0 (by decide) (hg (.fieldLink R_M 54 "SecureEntryModel" "thrown" "I") (by decide +kernel)) (fun _ h9 => h9) rfl (by decide +kernel) rfl rfl (Nat.le_of_ble_eq_true rfl) d_M_start_2 (fun H locs hP hD hS => ?_)
  have hI : InvM (mS st 0 0) := invm_mS hI (by decide)
  have hw : z_wl G (wM bd G st ++ wr) s (wM bd G (mS st 0 0) ++ wr) H locs := ⟨hP, hD, hS⟩
  refine lv_iconst (v := 0) hx hb d_M_start_5 (by decide) ?_
  refine lv_istore_n (lv' := [(1, .int 0), (0, .ref (bd 0))]) hx hb d_M_start_6 rfl hl (by decide) rfl (fun ls hl => ?_)
  refine lv_iconst (v := 0) hx hb d_M_start_7 (by decide) ?_
  refine lv_istore_n (lv' := [(2, .int 0), (1, .int 0), (0, .ref (bd 0))]) hx hb d_M_start_8 rfl hl (by decide) rfl (fun ls hl => ?_)
  refine loop (fun H locs hw ls hl => ?_) 7 0 (by decide) (by decide) _ _ hw ls hl
  refine lv_aload_n hx hb d_M_start_33 rfl (lv_at hl 2 rfl) ?_
  refine va_get (D := G.1) (ci := 3) (v := .int (st.1 13)) (C := R_M) (T := T_M) (N := 25) hx hb hts in_M hown h0.1 hw.1 0 rfl rfl 13 (by decide) (hg (.fieldLink R_M 99 "SecureEntryModel" "up" "Z") (by decide +kernel)) (fun _ h9 => h9) rfl d_M_start_34 ?_
  refine lv_if_ne (tgt := 58) hx hb d_M_start_37 (by decide) (fun c_37 => ?_) (fun c_37 => ?_)
  · refine lv_aload_n hx hb d_M_start_58 rfl (lv_at hl 2 rfl) ?_
    refine lv_iconst (v := 1) hx hb d_M_start_59 (by decide) ?_
    refine z_Vi0 (As := [.int 1]) (v := 0) (ws1 := (wM bd G (mS (mS st 0 0) 0 1) ++ wr)) ⟨hx, hb, hml, hown, hts⟩ (c_M_raise l G bd (mS st 0 0) wr _ 1) (cwV 1 hts gV_M_81 rfl rfl rfl (by decide +kernel) ⟨Nat.le_of_ble_eq_true rfl, Nat.le_of_ble_eq_true rfl⟩) h0 hw 0 rfl rfl rfl rfl hl.1 rfl (Nat.le_of_ble_eq_true rfl) d_M_start_60 ⟨Nat.le_of_ble_eq_true rfl, Nat.le_of_ble_eq_true rfl⟩ (fun H locs hw => ?_)
    have hI : InvM (mS (mS st 0 0) 0 1) := invm_mS hI (by decide)
    exact z_iret (wf := fun _ : Unit => (wM bd G (m_start st).2 ++ wr)) (post := fun r _ => r = (m_start st).1) (u := ()) hx hb hr hlocks h0 (by rw [m_start, if_neg c_37]; exact hw) rfl (by rw [m_start, if_neg c_37]) (Nat.le_of_ble_eq_true rfl) (Nat.le_of_ble_eq_true rfl) d_M_start_63
  · refine lv_iload_n hx hb d_M_start_40 rfl (lv_at hl 1 rfl) ?_
    refine lv_if_eq (tgt := 58) hx hb d_M_start_41 (by decide) (fun c_41 => ?_) (fun c_41 => ?_)
    · refine lv_aload_n hx hb d_M_start_58 rfl (lv_at hl 2 rfl) ?_
      refine lv_iconst (v := 1) hx hb d_M_start_59 (by decide) ?_
      refine z_Vi0 (As := [.int 1]) (v := 0) (ws1 := (wM bd G (mS (mS st 0 0) 0 1) ++ wr)) ⟨hx, hb, hml, hown, hts⟩ (c_M_raise l G bd (mS st 0 0) wr _ 1) (cwV 1 hts gV_M_81 rfl rfl rfl (by decide +kernel) ⟨Nat.le_of_ble_eq_true rfl, Nat.le_of_ble_eq_true rfl⟩) h0 hw 0 rfl rfl rfl rfl hl.1 rfl (Nat.le_of_ble_eq_true rfl) d_M_start_60 ⟨Nat.le_of_ble_eq_true rfl, Nat.le_of_ble_eq_true rfl⟩ (fun H locs hw => ?_)
      have hI : InvM (mS (mS st 0 0) 0 1) := invm_mS hI (by decide)
      exact z_iret (wf := fun _ : Unit => (wM bd G (m_start st).2 ++ wr)) (post := fun r _ => r = (m_start st).1) (u := ()) hx hb hr hlocks h0 (by rw [m_start, if_pos c_37, if_pos c_41]; exact hw) rfl (by rw [m_start, if_pos c_37, if_pos c_41]) (Nat.le_of_ble_eq_true rfl) (Nat.le_of_ble_eq_true rfl) d_M_start_63
    · refine lv_aload_n hx hb d_M_start_44 rfl (lv_at hl 2 rfl) ?_
      refine va_get (D := G.1) (ci := 3) (v := .int (st.1 11)) (C := R_M) (T := T_M) (N := 25) hx hb hts in_M hown h0.1 hw.1 0 rfl rfl 11 (by decide) (hg (.fieldLink R_M 38 "SecureEntryModel" "outer" "I") (by decide +kernel)) (fun _ h9 => h9) rfl d_M_start_45 ?_
      refine lv_if_ge (tgt := 58) hx hb d_M_start_48 (by decide) (fun c_48 => ?_) (fun c_48 => ?_)
      · refine lv_aload_n hx hb d_M_start_58 rfl (lv_at hl 2 rfl) ?_
        refine lv_iconst (v := 1) hx hb d_M_start_59 (by decide) ?_
        refine z_Vi0 (As := [.int 1]) (v := 0) (ws1 := (wM bd G (mS (mS st 0 0) 0 1) ++ wr)) ⟨hx, hb, hml, hown, hts⟩ (c_M_raise l G bd (mS st 0 0) wr _ 1) (cwV 1 hts gV_M_81 rfl rfl rfl (by decide +kernel) ⟨Nat.le_of_ble_eq_true rfl, Nat.le_of_ble_eq_true rfl⟩) h0 hw 0 rfl rfl rfl rfl hl.1 rfl (Nat.le_of_ble_eq_true rfl) d_M_start_60 ⟨Nat.le_of_ble_eq_true rfl, Nat.le_of_ble_eq_true rfl⟩ (fun H locs hw => ?_)
        have hI : InvM (mS (mS st 0 0) 0 1) := invm_mS hI (by decide)
        exact z_iret (wf := fun _ : Unit => (wM bd G (m_start st).2 ++ wr)) (post := fun r _ => r = (m_start st).1) (u := ()) hx hb hr hlocks h0 (by rw [m_start, if_pos c_37, if_neg c_41, if_pos c_48]; exact hw) rfl (by rw [m_start, if_pos c_37, if_neg c_41, if_pos c_48]) (Nat.le_of_ble_eq_true rfl) (Nat.le_of_ble_eq_true rfl) d_M_start_63
      · refine lv_aload_n hx hb d_M_start_51 rfl (lv_at hl 2 rfl) ?_
        refine va_get (D := G.1) (ci := 3) (v := .int (st.1 12)) (C := R_M) (T := T_M) (N := 25) hx hb hts in_M hown h0.1 hw.1 0 rfl rfl 12 (by decide) (hg (.fieldLink R_M 42 "SecureEntryModel" "inner" "I") (by decide +kernel)) (fun _ h9 => h9) rfl d_M_start_52 ?_
        refine lv_if_lt (tgt := 64) hx hb d_M_start_55 (by decide) (fun c_55 => ?_) (fun c_55 => ?_)
        · refine lv_aload_n hx hb d_M_start_64 rfl (lv_at hl 2 rfl) ?_
          refine lv_iconst (v := 1) hx hb d_M_start_65 (by decide) ?_
          refine va_put (D := G.1) (ci := 3) (v := .int 1) (ty := .boolean) (C := R_M) (T := T_M) (N := 25) hx hb hts in_M ty_M ty_M_ok n_M hown h0.1 hw.1 hw.2.1 hw.2.2 0 rfl rfl 13 (by decide) (hg (.fieldLink R_M 99 "SecureEntryModel" "up" "Z") (by decide +kernel)) (fun _ h9 => h9) rfl (by decide +kernel) rfl rfl (Nat.le_of_ble_eq_true rfl) d_M_start_66 (fun H locs hP hD hS => ?_)
          have hI : InvM (mS (mS st 0 0) 13 1) := invm_mS hI (by decide)
          have hw : z_wl G (wM bd G st ++ wr) s (wM bd G (mS (mS st 0 0) 13 1) ++ wr) H locs := ⟨hP, hD, hS⟩
          refine lv_aload_n hx hb d_M_start_69 rfl (lv_at hl 2 rfl) ?_
          refine lv_iconst (v := 0) hx hb d_M_start_70 (by decide) ?_
          refine va_put (D := G.1) (ci := 3) (v := .int 0) (ty := .int) (C := R_M) (T := T_M) (N := 25) hx hb hts in_M ty_M ty_M_ok n_M hown h0.1 hw.1 hw.2.1 hw.2.2 0 rfl rfl 14 (by decide) (hg (.fieldLink R_M 113 "SecureEntryModel" "user" "I") (by decide +kernel)) (fun _ h9 => h9) rfl (by decide +kernel) rfl rfl (Nat.le_of_ble_eq_true rfl) d_M_start_71 (fun H locs hP hD hS => ?_)
          have hI : InvM (mS (mS (mS st 0 0) 13 1) 14 0) := invm_mS hI (by decide)
          have hw : z_wl G (wM bd G st ++ wr) s (wM bd G (mS (mS (mS st 0 0) 13 1) 14 0) ++ wr) H locs := ⟨hP, hD, hS⟩
          refine lv_aload_n hx hb d_M_start_74 rfl (lv_at hl 2 rfl) ?_
          refine lv_iconst (v := 0) hx hb d_M_start_75 (by decide) ?_
          refine va_put (D := G.1) (ci := 3) (v := .int 0) (ty := .int) (C := R_M) (T := T_M) (N := 25) hx hb hts in_M ty_M ty_M_ok n_M hown h0.1 hw.1 hw.2.1 hw.2.2 0 rfl rfl 16 (by decide) (hg (.fieldLink R_M 116 "SecureEntryModel" "role" "I") (by decide +kernel)) (fun _ h9 => h9) rfl (by decide +kernel) rfl rfl (Nat.le_of_ble_eq_true rfl) d_M_start_76 (fun H locs hP hD hS => ?_)
          have hI : InvM (mS (mS (mS (mS st 0 0) 13 1) 14 0) 16 0) := invm_mS hI (by decide)
          have hw : z_wl G (wM bd G st ++ wr) s (wM bd G (mS (mS (mS (mS st 0 0) 13 1) 14 0) 16 0) ++ wr) H locs := ⟨hP, hD, hS⟩
          refine lv_aload_n hx hb d_M_start_79 rfl (lv_at hl 2 rfl) ?_
          refine lv_iconst (v := 1) hx hb d_M_start_80 (by decide) ?_
          refine lv_iconst (v := (-1)) hx hb d_M_start_81 (by decide) ?_
          refine z_Vv0 (As := [.int 1, .int (-1)]) (ws1 := (wM bd G (m_log (mS (mS (mS (mS st 0 0) 13 1) 14 0) 16 0) 1 (-1)) ++ wr)) ⟨hx, hb, hml, hown, hts⟩ (c_M_log l G bd (mS (mS (mS (mS st 0 0) 13 1) 14 0) 16 0) wr _ 1 (-1) hI) (cwV 2 hts gV_M_109 rfl rfl rfl (by decide +kernel) ⟨Nat.le_of_ble_eq_true rfl, Nat.le_of_ble_eq_true rfl⟩) h0 hw 0 rfl rfl rfl rfl hl.1 rfl (Nat.le_of_ble_eq_true rfl) d_M_start_82 ⟨Nat.le_of_ble_eq_true rfl, Nat.le_of_ble_eq_true rfl⟩ (fun H locs hw => ?_)
          have hI : InvM (m_log (mS (mS (mS (mS st 0 0) 13 1) 14 0) 16 0) 1 (-1)) := inv_m_log hI
          refine lv_iload_n hx hb d_M_start_85 rfl (lv_at hl 1 rfl) ?_
          exact z_iret (wf := fun _ : Unit => (wM bd G (m_start st).2 ++ wr)) (post := fun r _ => r = (m_start st).1) (u := ()) hx hb hr hlocks h0 (by rw [m_start, if_pos c_37, if_neg c_41, if_neg c_48, if_pos c_55]; exact hw) rfl (by rw [m_start, if_pos c_37, if_neg c_41, if_neg c_48, if_pos c_55]) (Nat.le_of_ble_eq_true rfl) (Nat.le_of_ble_eq_true rfl) d_M_start_86
        · refine lv_aload_n hx hb d_M_start_58 rfl (lv_at hl 2 rfl) ?_
          refine lv_iconst (v := 1) hx hb d_M_start_59 (by decide) ?_
          refine z_Vi0 (As := [.int 1]) (v := 0) (ws1 := (wM bd G (mS (mS st 0 0) 0 1) ++ wr)) ⟨hx, hb, hml, hown, hts⟩ (c_M_raise l G bd (mS st 0 0) wr _ 1) (cwV 1 hts gV_M_81 rfl rfl rfl (by decide +kernel) ⟨Nat.le_of_ble_eq_true rfl, Nat.le_of_ble_eq_true rfl⟩) h0 hw 0 rfl rfl rfl rfl hl.1 rfl (Nat.le_of_ble_eq_true rfl) d_M_start_60 ⟨Nat.le_of_ble_eq_true rfl, Nat.le_of_ble_eq_true rfl⟩ (fun H locs hw => ?_)
          have hI : InvM (mS (mS st 0 0) 0 1) := invm_mS hI (by decide)
          exact z_iret (wf := fun _ : Unit => (wM bd G (m_start st).2 ++ wr)) (post := fun r _ => r = (m_start st).1) (u := ()) hx hb hr hlocks h0 (by rw [m_start, if_pos c_37, if_neg c_41, if_neg c_48, if_neg c_55]; exact hw) rfl (by rw [m_start, if_pos c_37, if_neg c_41, if_neg c_48, if_neg c_55]) (Nat.le_of_ble_eq_true rfl) (Nat.le_of_ble_eq_true rfl) d_M_start_63
set_option maxHeartbeats 4000000 in
set_option maxRecDepth 100000 in
theorem c_M_pass (l : Launch) (G : gG) (bd : Nat → Nat) (st : MS) (wr : va_W) (sz : Nat) (p1 : Int32) (hI : InvM st) (hri : RI st) : Met l y_M_pass w_M_pass { frames := 3, cells := 0, slots := 0, locals := 70 } (va_Pc [.ref (bd 0), .int p1] (z_pre G (wM bd G st ++ wr) sz)) (z_Qi0 G (wM bd G st ++ wr) sz (wM bd G (m_pass st p1).2 ++ wr) (m_pass st p1).1) 0 0 (va_A (wM bd G st ++ wr) sz) := by
  refine Met.ofW (cc := b_M_pass) (maxL := 3) (ret := (some .int)) (by decide) rfl ?_
  intro p e s m args below meth c s₁ B hml hv
  obtain ⟨rfl, hsz, hP, hK, hD0, ham⟩ := hv
  subst hsz
  have hx := B.exec
  have hb := B.bytes
  have hr := B.returns
  have hts : ∀ w ∈ goT, w.before _ s = true := fun w h => atoms_spec (ws := w_M_pass) B.pre w (List.mem_cons_of_mem _ h)
  have hg : ∀ w, goB w = true → w.before _ s = true := fun w h => hts w (goI h)
  have hown : s.vm.findClass R_M = some m.cls := findClass_of_methodNamed B.named
  have hlocks := B.notSynchronized
  have h0 : z_st G (wM bd G st ++ wr) s := ⟨hK, ham⟩
  have hw : z_wl G (wM bd G st ++ wr) s (wM bd G st ++ wr) s.heap [] := z_0 hP hD0
  have hl := lv_entry ([.ref (bd 0), .int p1]) (n := 3) (Nat.le_of_ble_eq_true rfl)
  rw [lg_entry_eq]
  generalize (lg_sl ([.ref (bd 0), .int p1]) ++ List.replicate (3 - (lg_sl ([.ref (bd 0), .int p1])).length) Slot.unset).toArray = ls at hl ⊢
  have hl : lv_has ls 3 [(0, .ref (bd 0)), (1, .int p1)] := hl
  have hI0 := hI
  have loop : ∀ N : Nat, N < 2 ^ 31 → p1 = nI N → (∀ (H : Heap) (locs : List Loc), z_wl G (wM bd G st ++ wr) s (wM bd G (m_secs (mS st 0 0) N) ++ wr) H locs → ∀ (ls : Array Slot), lv_has ls 3 [(0, .ref (bd 0)), (1, .int p1)] → W p l e (headSpec w_M_pass { frames := 3, cells := 0, slots := 0, locals := 70 }).room s m #[.ref (bd 0), .int p1] below meth c H locs 0 0 (MQ below (z_Qi0 G (wM bd G st ++ wr) s.heap.size (wM bd G (m_pass st p1).2 ++ wr) (m_pass st p1).1) #[.ref (bd 0), .int p1] s 0 0 (va_A (wM bd G st ++ wr) s.heap.size)) (F0 m 50 ls [])) → ∀ (n i : Nat) (S9 : MS), S9 = m_secs (mS st 0 0) i → InvM S9 → RI S9 → i ≤ N → N + 1 ≤ i + n → ∀ (H : Heap) (locs : List Loc), z_wl G (wM bd G st ++ wr) s (wM bd G S9 ++ wr) H locs → ∀ (ls : Array Slot), lv_has ls 3 [(2, .int (nI i)), (0, .ref (bd 0)), (1, .int p1)] → W p l e (headSpec w_M_pass { frames := 3, cells := 0, slots := 0, locals := 70 }).room s m #[.ref (bd 0), .int p1] below meth c H locs 0 0 (MQ below (z_Qi0 G (wM bd G st ++ wr) s.heap.size (wM bd G (m_pass st p1).2 ++ wr) (m_pass st p1).1) #[.ref (bd 0), .int p1] s 0 0 (va_A (wM bd G st ++ wr) s.heap.size)) (F0 m 35 ls []) := by
    intro N hN eN kk n
    induction n with
    | zero => intro i S9 eS hI hri h1 h2; exact absurd h2 (by omega)
    | succ n ih =>
      intro i S9 eS hI hri h1 h2 H locs hw ls hl
      refine lv_iload_n hx hb d_M_pass_35 rfl (lv_at hl 0 rfl) ?_
      refine lv_iload_n hx hb d_M_pass_36 rfl (lv_at hl 2 rfl) ?_
      refine lv_icmp_ge (tgt := 50) hx hb d_M_pass_37 (by decide) (fun c_37 => ?_) (fun c_37 => ?_)
      · have hi : i = N := Nat.le_antisymm h1 ((nI_leI hN (by omega)).mp (eN ▸ c_37))
        subst hi
        rw [eS] at hw
        exact kk H locs hw ls (lv_sub hl [1, 2] rfl)
      · have hi : i < N := (nI_ltI (by omega) hN).mp (Int32.not_le.mp (eN ▸ c_37))
        refine lv_aload_n hx hb d_M_pass_40 rfl (lv_at hl 1 rfl) ?_
        refine z_Vv0 (As := []) (ws1 := (wM bd G (m_second S9) ++ wr)) ⟨hx, hb, hml, hown, hts⟩ (c_M_second l G bd S9 wr _  hI hri) (cwV 0 hts gV_M_154 rfl rfl rfl (by decide +kernel) ⟨Nat.le_of_ble_eq_true rfl, Nat.le_of_ble_eq_true rfl⟩) h0 hw 0 rfl rfl rfl rfl hl.1 rfl (Nat.le_of_ble_eq_true rfl) d_M_pass_41 ⟨Nat.le_of_ble_eq_true rfl, Nat.le_of_ble_eq_true rfl⟩ (fun H locs hw => ?_)
        refine lv_iinc (v := ((nI i) + 1)) (lv' := [(2, .int ((nI i) + 1)), (0, .ref (bd 0)), (1, .int p1)]) hx hb d_M_pass_44 hl (k := 0) rfl rfl (by decide) rfl (fun ls hl => ?_)
        refine lv_goto (tgt := 35) hx hb d_M_pass_47 (by decide) ?_
        have hl := lv_sub hl [0, 1, 2] rfl
        exact ih (i + 1) (m_second S9) (by rw [m_secs, eS]) (inv_m_second hI) (ri_second hri) (by omega) (by omega) H locs hw ls (by rw [← nI_1]; exact hl)
  refine lv_aload_n hx hb d_M_pass_0 rfl (lv_at hl 0 rfl) ?_
  refine lv_iconst (v := 0) hx hb d_M_pass_1 (by decide) ?_
  refine va_put (D := G.1) (ci := 3) (v := .int 0) (ty := .int) (C := R_M) (T := T_M) (N := 25) hx hb hts in_M ty_M ty_M_ok n_M hown h0.1 hw.1 hw.2.1 hw.2.2 0 rfl rfl 0 (by decide) (hg (.fieldLink R_M 54 "SecureEntryModel" "thrown" "I") (by decide +kernel)) (fun _ h9 => h9) rfl (by decide +kernel) rfl rfl (Nat.le_of_ble_eq_true rfl) d_M_pass_2 (fun H locs hP hD hS => ?_)
  have hI : InvM (mS st 0 0) := invm_mS hI (by decide)
  have hw : z_wl G (wM bd G st ++ wr) s (wM bd G (mS st 0 0) ++ wr) H locs := ⟨hP, hD, hS⟩
  refine lv_iload_n hx hb d_M_pass_5 rfl (lv_at hl 1 rfl) ?_
  refine lv_iconst (v := 1) hx hb d_M_pass_6 (by decide) ?_
  refine lv_sipush (v := 1000) hx hb d_M_pass_7 (by decide) ?_
  refine z_Si0 (As := [.int p1, .int 1, .int 1000]) (v := (m_inn p1 1 1000)) ⟨hx, hb, hml, hown, hts⟩ (c_M_in l G (wM bd G (mS st 0 0) ++ wr) _ p1 1 1000) (cwS 3 hts gS_M_57 rfl rfl rfl (by decide +kernel) ⟨Nat.le_of_ble_eq_true rfl, Nat.le_of_ble_eq_true rfl⟩) h0 hw rfl hl.1 rfl (Nat.le_of_ble_eq_true rfl) d_M_pass_10 ⟨Nat.le_of_ble_eq_true rfl, Nat.le_of_ble_eq_true rfl⟩ (fun H locs hw => ?_)
  refine lv_if_eq (tgt := 27) hx hb d_M_pass_13 (by decide) (fun c_13 => ?_) (fun c_13 => ?_)
  · refine lv_aload_n hx hb d_M_pass_27 rfl (lv_at hl 0 rfl) ?_
    refine lv_iconst (v := 1) hx hb d_M_pass_28 (by decide) ?_
    refine z_Vi0 (As := [.int 1]) (v := 0) (ws1 := (wM bd G (mS (mS st 0 0) 0 1) ++ wr)) ⟨hx, hb, hml, hown, hts⟩ (c_M_raise l G bd (mS st 0 0) wr _ 1) (cwV 1 hts gV_M_81 rfl rfl rfl (by decide +kernel) ⟨Nat.le_of_ble_eq_true rfl, Nat.le_of_ble_eq_true rfl⟩) h0 hw 0 rfl rfl rfl rfl hl.1 rfl (Nat.le_of_ble_eq_true rfl) d_M_pass_29 ⟨Nat.le_of_ble_eq_true rfl, Nat.le_of_ble_eq_true rfl⟩ (fun H locs hw => ?_)
    have hI : InvM (mS (mS st 0 0) 0 1) := invm_mS hI (by decide)
    exact z_iret (wf := fun _ : Unit => (wM bd G (m_pass st p1).2 ++ wr)) (post := fun r _ => r = (m_pass st p1).1) (u := ()) hx hb hr hlocks h0 (by rw [m_pass, if_pos c_13]; exact hw) rfl (by rw [m_pass, if_pos c_13]) (Nat.le_of_ble_eq_true rfl) (Nat.le_of_ble_eq_true rfl) d_M_pass_32
  · refine lv_aload_n hx hb d_M_pass_16 rfl (lv_at hl 0 rfl) ?_
    refine va_get (D := G.1) (ci := 3) (v := .int (st.1 1)) (C := R_M) (T := T_M) (N := 25) hx hb hts in_M hown h0.1 hw.1 0 rfl rfl 1 (by decide) (hg (.fieldLink R_M 93 "SecureEntryModel" "time" "I") (by decide +kernel)) (fun _ h9 => h9) rfl d_M_pass_17 ?_
    refine lv_iload_n hx hb d_M_pass_20 rfl (lv_at hl 1 rfl) ?_
    refine lv_iadd hx hb d_M_pass_21 ?_
    refine lv_ldc hx hb hown (hg (.constant R_M 62 100000) (by decide +kernel)) d_M_pass_22 ?_
    refine lv_icmp_le (tgt := 33) hx hb d_M_pass_24 (by decide) (fun c_24 => ?_) (fun c_24 => ?_)
    · refine lv_iconst (v := 0) hx hb d_M_pass_33 (by decide) ?_
      refine lv_istore_n (lv' := [(2, .int 0), (0, .ref (bd 0)), (1, .int p1)]) hx hb d_M_pass_34 rfl hl (by decide) rfl (fun ls hl => ?_)
      obtain ⟨N, hN, eN⟩ := win_1 (show ¬ f_isWithin p1 1 1000 = 0 from c_13)
      have eC : p1.toNatClampNeg = N := by rw [eN, nI_clamp hN]
      refine loop N hN eN (fun H locs hw ls hl => ?_) (N + 1) 0 (mS st 0 0) rfl (invm_mS hI0 (by decide)) (ri_mS hri (by decide)) (Nat.zero_le _) (by omega) _ _ hw ls hl
      rw [← eC] at hw
      obtain ⟨S8, eS⟩ : ∃ z, z = m_secs (mS st 0 0) p1.toNatClampNeg := ⟨_, rfl⟩
      rw [← eS] at hw
      refine lv_aload_n hx hb d_M_pass_50 rfl (lv_at hl 0 rfl) ?_
      refine va_get (D := G.1) (ci := 3) (v := .int (S8.1 1)) (C := R_M) (T := T_M) (N := 25) hx hb hts in_M hown h0.1 hw.1 0 rfl rfl 1 (by decide) (hg (.fieldLink R_M 93 "SecureEntryModel" "time" "I") (by decide +kernel)) (fun _ h9 => h9) rfl d_M_pass_51 ?_
      exact z_iret (wf := fun _ : Unit => (wM bd G (m_pass st p1).2 ++ wr)) (post := fun r _ => r = (m_pass st p1).1) (u := ()) hx hb hr hlocks h0 (by rw [m_pass, if_neg c_13, if_pos c_24, ← eS]; exact hw) rfl (by rw [m_pass, if_neg c_13, if_pos c_24, ← eS]) (Nat.le_of_ble_eq_true rfl) (Nat.le_of_ble_eq_true rfl) d_M_pass_54
    · refine lv_aload_n hx hb d_M_pass_27 rfl (lv_at hl 0 rfl) ?_
      refine lv_iconst (v := 1) hx hb d_M_pass_28 (by decide) ?_
      refine z_Vi0 (As := [.int 1]) (v := 0) (ws1 := (wM bd G (mS (mS st 0 0) 0 1) ++ wr)) ⟨hx, hb, hml, hown, hts⟩ (c_M_raise l G bd (mS st 0 0) wr _ 1) (cwV 1 hts gV_M_81 rfl rfl rfl (by decide +kernel) ⟨Nat.le_of_ble_eq_true rfl, Nat.le_of_ble_eq_true rfl⟩) h0 hw 0 rfl rfl rfl rfl hl.1 rfl (Nat.le_of_ble_eq_true rfl) d_M_pass_29 ⟨Nat.le_of_ble_eq_true rfl, Nat.le_of_ble_eq_true rfl⟩ (fun H locs hw => ?_)
      have hI : InvM (mS (mS st 0 0) 0 1) := invm_mS hI (by decide)
      exact z_iret (wf := fun _ : Unit => (wM bd G (m_pass st p1).2 ++ wr)) (post := fun r _ => r = (m_pass st p1).1) (u := ()) hx hb hr hlocks h0 (by rw [m_pass, if_neg c_13, if_neg c_24]; exact hw) rfl (by rw [m_pass, if_neg c_13, if_neg c_24]) (Nat.le_of_ble_eq_true rfl) (Nat.le_of_ble_eq_true rfl) d_M_pass_32
end MC3
