section LC
set_option maxHeartbeats 4000000 in
set_option maxRecDepth 100000 in
theorem c_S_enrolledIssuers (l : Launch) (G : gG) (ad : Nat → Nat) (st : CS) (wr : va_W) (sz : Nat) : Met l y_S_enrolledIssuers w_S_enrolledIssuers { frames := 1, cells := 0, slots := 0, locals := 21 } (va_Pc [.ref (ad 0)] (z_pre G (wC ad G st ++ wr) sz)) (z_Qi0 G (wC ad G st ++ wr) sz (wC ad G st ++ wr) (f_enrolledIssuers st)) 0 0 (va_A (wC ad G st ++ wr) sz) := by
  refine Met.ofW (cc := b_S_enrolledIssuers) (maxL := 3) (ret := (some .int)) (by decide) rfl ?_
  intro p e s m args below meth c s₁ B hml hv
  obtain ⟨rfl, hsz, hP, hK, hD0, ham⟩ := hv
  subst hsz
  have hx := B.exec
  have hb := B.bytes
  have hr := B.returns
  have hts : ∀ w ∈ goT, w.before _ s = true := fun w h => atoms_spec (ws := w_S_enrolledIssuers) B.pre w (List.mem_cons_of_mem _ h)
  have hg : ∀ w, goB w = true → w.before _ s = true := fun w h => hts w (goI h)
  have hown : s.vm.findClass R_S = some m.cls := findClass_of_methodNamed B.named
  have hlocks := B.notSynchronized
  have h0 : z_st G (wC ad G st ++ wr) s := ⟨hK, ham⟩
  have hw : z_wl G (wC ad G st ++ wr) s (wC ad G st ++ wr) s.heap [] := z_0 hP hD0
  have hl := lv_entry ([.ref (ad 0)]) (n := 3) (Nat.le_of_ble_eq_true rfl)
  rw [lg_entry_eq]
  generalize (lg_sl ([.ref (ad 0)]) ++ List.replicate (3 - (lg_sl ([.ref (ad 0)])).length) Slot.unset).toArray = ls at hl ⊢
  have hl : lv_has ls 3 [(0, .ref (ad 0))] := hl
  have loop : ∀ (n i : Nat), i ≤ 6 → 7 ≤ i + n → ∀ (H : Heap) (locs : List Loc), z_wl G (wC ad G st ++ wr) s (wC ad G st ++ wr) H locs → ∀ (ls : Array Slot), lv_has ls 3 [(2, .int (nI i)), (1, .int (f_enr st i)), (0, .ref (ad 0))] → W p l e (headSpec w_S_enrolledIssuers { frames := 1, cells := 0, slots := 0, locals := 21 }).room s m #[.ref (ad 0)] below meth c H locs 0 0 (MQ below (z_Qi0 G (wC ad G st ++ wr) s.heap.size (wC ad G st ++ wr) (f_enrolledIssuers st)) #[.ref (ad 0)] s 0 0 (va_A (wC ad G st ++ wr) s.heap.size)) (F0 m 4 ls []) := by
    intro n
    induction n with
    | zero => intro i h1 h2; exact absurd h2 (by omega)
    | succ n ih =>
      intro i h1 h2 H locs hw ls hl
      refine lv_iload_n hx hb d_S_enrolledIssuers_4 rfl (lv_at hl 0 rfl) ?_
      refine lv_bipush (v := 6) hx hb d_S_enrolledIssuers_5 (by decide) ?_
      refine lv_icmp_ge (tgt := 27) hx hb d_S_enrolledIssuers_7 (by decide) (fun c_7 => ?_) (fun c_7 => ?_)
      · have hi : i = 6 := Nat.le_antisymm h1 ((nI_leI (by decide) (by omega)).mp c_7)
        refine lv_iload_n hx hb d_S_enrolledIssuers_27 rfl (lv_at hl 1 rfl) ?_
        exact z_iret (wf := fun _ : Unit => (wC ad G st ++ wr)) (post := fun r _ => r = f_enrolledIssuers st) (u := ()) hx hb hr hlocks h0 hw rfl (by rw [f_enrolledIssuers, hi]) (Nat.le_of_ble_eq_true rfl) (Nat.le_of_ble_eq_true rfl) d_S_enrolledIssuers_28
      · have hi : i < 6 := (nI_ltI (by omega) (by decide)).mp (Int32.not_le.mp c_7)
        refine lv_aload_n hx hb d_S_enrolledIssuers_10 rfl (lv_at hl 2 rfl) ?_
        refine lv_iload_n hx hb d_S_enrolledIssuers_11 rfl (lv_at hl 0 rfl) ?_
        refine z_Vi0 (As := [.int (nI i)]) (v := (f_isEnrolled st (nI i))) ⟨hx, hb, hml, hown, hts⟩ (c_S_isEnrolled l G ad st wr _ (nI i) (vp_in_nI (by omega) (by decide))) (cwV 1 hts gV_S_57 rfl rfl rfl (by decide +kernel) ⟨Nat.le_of_ble_eq_true rfl, Nat.le_of_ble_eq_true rfl⟩) h0 hw 0 rfl rfl rfl rfl hl.1 rfl (Nat.le_of_ble_eq_true rfl) d_S_enrolledIssuers_12 ⟨Nat.le_of_ble_eq_true rfl, Nat.le_of_ble_eq_true rfl⟩ (fun H locs hw => ?_)
        refine lv_if_eq (tgt := 21) hx hb d_S_enrolledIssuers_15 (by decide) (fun c_15 => ?_) (fun c_15 => ?_)
        · refine lv_iinc (v := ((nI i) + 1)) (lv' := [(2, .int ((nI i) + 1)), (1, .int (f_enr st i)), (0, .ref (ad 0))]) hx hb d_S_enrolledIssuers_21 hl (k := 0) rfl rfl (by decide) rfl (fun ls hl => ?_)
          refine lv_goto (tgt := 4) hx hb d_S_enrolledIssuers_24 (by decide) ?_
          have hl := lv_sub hl [0, 1, 2] rfl
          exact ih (i + 1) (by omega) (by omega) H locs hw ls (by rw [f_enr, if_pos c_15, ← nI_1]; exact hl)
        · refine lv_iinc (v := ((f_enr st i) + 1)) (lv' := [(1, .int ((f_enr st i) + 1)), (2, .int (nI i)), (0, .ref (ad 0))]) hx hb d_S_enrolledIssuers_18 hl (k := 1) rfl rfl (by decide) rfl (fun ls hl => ?_)
          refine lv_iinc (v := ((nI i) + 1)) (lv' := [(2, .int ((nI i) + 1)), (1, .int ((f_enr st i) + 1)), (0, .ref (ad 0))]) hx hb d_S_enrolledIssuers_21 hl (k := 1) rfl rfl (by decide) rfl (fun ls hl => ?_)
          refine lv_goto (tgt := 4) hx hb d_S_enrolledIssuers_24 (by decide) ?_
          have hl := lv_sub hl [0, 1, 2] rfl
          exact ih (i + 1) (by omega) (by omega) H locs hw ls (by rw [f_enr, if_neg c_15, ← nI_1]; exact hl)
  refine lv_iconst (v := 0) hx hb d_S_enrolledIssuers_0 (by decide) ?_
  refine lv_istore_n (lv' := [(1, .int 0), (0, .ref (ad 0))]) hx hb d_S_enrolledIssuers_1 rfl hl (by decide) rfl (fun ls hl => ?_)
  refine lv_iconst (v := 0) hx hb d_S_enrolledIssuers_2 (by decide) ?_
  refine lv_istore_n (lv' := [(2, .int 0), (1, .int 0), (0, .ref (ad 0))]) hx hb d_S_enrolledIssuers_3 rfl hl (by decide) rfl (fun ls hl => ?_)
  exact loop 7 0 (by decide) (by decide) _ _ hw ls hl
set_option maxHeartbeats 4000000 in
set_option maxRecDepth 100000 in
theorem c_S_start (l : Launch) (hl9 : l.stackTraces = false) (G : gG) (ad : Nat → Nat) (st : CS) (wr : va_W) (sz : Nat)  (hI : InvC st) : vx_Met l y_S_start w_S_start { frames := 6, cells := 1, slots := 6, locals := 83 } (va_Pc [.ref (ad 0)] (z_pre G (wC ad G st ++ wr) sz)) (z_Qi G (wC ad G st ++ wr) sz (fun u : CS => (wC ad G u ++ wr)) (fun r u => f_start st = .inr (r, u))) (z_X G (wC ad G st ++ wr) sz (fun E => f_start st = .inl E)) 1 6 (va_A (wC ad G st ++ wr) sz) := by
  refine vx_ofW (cc := b_S_start) (maxL := 2) (ret := (some .int)) (by decide) rfl ?_
  intro p e s m args below meth c s₁ B hml hex hv
  obtain ⟨rfl, hsz, hP, hK, hD0, ham⟩ := hv
  subst hsz
  have hx := B.exec
  have hb := B.bytes
  have hr := B.returns
  have hts : ∀ w ∈ goT, w.before _ s = true := fun w h => atoms_spec (ws := w_S_start) B.pre w (List.mem_cons_of_mem _ h)
  have hg : ∀ w, goB w = true → w.before _ s = true := fun w h => hts w (goI h)
  have hown : s.vm.findClass R_S = some m.cls := findClass_of_methodNamed B.named
  have hlocks := B.notSynchronized
  have h0 : z_st G (wC ad G st ++ wr) s := ⟨hK, ham⟩
  have hw : z_wl G (wC ad G st ++ wr) s (wC ad G st ++ wr) s.heap [] := z_0 hP hD0
  have hl := lv_entry ([.ref (ad 0)]) (n := 2) (Nat.le_of_ble_eq_true rfl)
  rw [lg_entry_eq]
  generalize (lg_sl ([.ref (ad 0)]) ++ List.replicate (2 - (lg_sl ([.ref (ad 0)])).length) Slot.unset).toArray = ls at hl ⊢
  have hl : lv_has ls 2 [(0, .ref (ad 0))] := hl
  refine lv_aload_n hx hb d_S_start_0 rfl (lv_at hl 0 rfl) ?_
  refine z_Vi0 (As := []) (v := (f_enrolledIssuers st)) ⟨hx, hb, hml, hown, hts⟩ (c_S_enrolledIssuers l G ad st wr _) (cwV 0 hts gV_S_94 rfl rfl rfl (by decide +kernel) ⟨Nat.le_of_ble_eq_true rfl, Nat.le_of_ble_eq_true rfl⟩) h0 hw 0 rfl rfl rfl rfl hl.1 rfl (Nat.le_of_ble_eq_true rfl) d_S_start_1 ⟨Nat.le_of_ble_eq_true rfl, Nat.le_of_ble_eq_true rfl⟩ (fun H locs hw => ?_)
  refine lv_istore_n (lv' := [(1, .int (f_enrolledIssuers st)), (0, .ref (ad 0))]) hx hb d_S_start_4 rfl hl (by decide) rfl (fun ls hl => ?_)
  refine lv_aload_n hx hb d_S_start_5 rfl (lv_at hl 1 rfl) ?_
  refine va_get (D := G.1) (ci := 2) (v := .int (st.1 5)) (C := R_S) (T := T_S) (N := 14) hx hb hts in_S hown h0.1 hw.1 0 rfl rfl 5 (by decide) (hg (.fieldLink R_S 87 "SecureEntry" "up" "Z") (by decide +kernel)) (fun _ h9 => h9) rfl d_S_start_6 ?_
  refine lv_if_ne (tgt := 32) hx hb d_S_start_9 (by decide) (fun c_9 => ?_) (fun c_9 => ?_)
  · exact z_throw0 (cls := "java/lang/IllegalStateException") (ic := 93) hx hb hl9 hown (hg (.classLink R_S 91 "java/lang/IllegalStateException") (by decide +kernel)) (hg (.initialized "java/lang/IllegalStateException") (by decide +kernel)) (hat_S93 hts h0.2.1) (by decide +kernel) h0 hw (hl.1.trans hml.symm) d_S_start_32 d_S_start_35 d_S_start_36 d_S_start_39 hex (Nat.le_of_ble_eq_true rfl) (Nat.le_of_ble_eq_true rfl) (Nat.le_of_ble_eq_true rfl) (Nat.le_of_ble_eq_true rfl) hlocks (by rw [f_start, if_neg c_9]) (Nat.le_of_ble_eq_true rfl) (Nat.le_of_ble_eq_true rfl)
  · refine lv_iload_n hx hb d_S_start_12 rfl (lv_at hl 0 rfl) ?_
    refine lv_if_eq (tgt := 32) hx hb d_S_start_13 (by decide) (fun c_13 => ?_) (fun c_13 => ?_)
    · exact z_throw0 (cls := "java/lang/IllegalStateException") (ic := 93) hx hb hl9 hown (hg (.classLink R_S 91 "java/lang/IllegalStateException") (by decide +kernel)) (hg (.initialized "java/lang/IllegalStateException") (by decide +kernel)) (hat_S93 hts h0.2.1) (by decide +kernel) h0 hw (hl.1.trans hml.symm) d_S_start_32 d_S_start_35 d_S_start_36 d_S_start_39 hex (Nat.le_of_ble_eq_true rfl) (Nat.le_of_ble_eq_true rfl) (Nat.le_of_ble_eq_true rfl) (Nat.le_of_ble_eq_true rfl) hlocks (by rw [f_start, if_pos c_9, if_pos c_13]) (Nat.le_of_ble_eq_true rfl) (Nat.le_of_ble_eq_true rfl)
    · refine lv_aload_n hx hb d_S_start_16 rfl (lv_at hl 1 rfl) ?_
      refine va_get (D := G.1) (ci := 2) (v := .int (st.1 8)) (C := R_S) (T := T_S) (N := 14) hx hb hts in_S hown h0.1 hw.1 0 rfl rfl 8 (by decide) (hg (.fieldLink R_S 41 "SecureEntry" "outerToken" "I") (by decide +kernel)) (fun _ h9 => h9) rfl d_S_start_17 ?_
      refine lv_iconst (v := (-1)) hx hb d_S_start_20 (by decide) ?_
      refine lv_icmp_ne (tgt := 32) hx hb d_S_start_21 (by decide) (fun c_21 => ?_) (fun c_21 => ?_)
      · exact z_throw0 (cls := "java/lang/IllegalStateException") (ic := 93) hx hb hl9 hown (hg (.classLink R_S 91 "java/lang/IllegalStateException") (by decide +kernel)) (hg (.initialized "java/lang/IllegalStateException") (by decide +kernel)) (hat_S93 hts h0.2.1) (by decide +kernel) h0 hw (hl.1.trans hml.symm) d_S_start_32 d_S_start_35 d_S_start_36 d_S_start_39 hex (Nat.le_of_ble_eq_true rfl) (Nat.le_of_ble_eq_true rfl) (Nat.le_of_ble_eq_true rfl) (Nat.le_of_ble_eq_true rfl) hlocks (by rw [f_start, if_pos c_9, if_neg c_13, if_neg c_21]) (Nat.le_of_ble_eq_true rfl) (Nat.le_of_ble_eq_true rfl)
      · refine lv_aload_n hx hb d_S_start_24 rfl (lv_at hl 1 rfl) ?_
        refine va_get (D := G.1) (ci := 2) (v := .int (st.1 9)) (C := R_S) (T := T_S) (N := 14) hx hb hts in_S hown h0.1 hw.1 0 rfl rfl 9 (by decide) (hg (.fieldLink R_S 44 "SecureEntry" "innerToken" "I") (by decide +kernel)) (fun _ h9 => h9) rfl d_S_start_25 ?_
        refine lv_iconst (v := (-1)) hx hb d_S_start_28 (by decide) ?_
        refine lv_icmp_eq (tgt := 40) hx hb d_S_start_29 (by decide) (fun c_29 => ?_) (fun c_29 => ?_)
        · refine lv_aload_n hx hb d_S_start_40 rfl (lv_at hl 1 rfl) ?_
          refine lv_iconst (v := 1) hx hb d_S_start_41 (by decide) ?_
          refine va_put (D := G.1) (ci := 2) (v := .int 1) (ty := .boolean) (C := R_S) (T := T_S) (N := 14) hx hb hts in_S ty_S ty_S_ok n_S hown h0.1 hw.1 hw.2.1 hw.2.2 0 rfl rfl 5 (by decide) (hg (.fieldLink R_S 87 "SecureEntry" "up" "Z") (by decide +kernel)) (fun _ h9 => h9) rfl (by decide +kernel) rfl rfl (Nat.le_of_ble_eq_true rfl) d_S_start_42 (fun H locs hP hD hS => ?_)
          have hI : InvC (sS st 5 1) := inv_sS hI (by decide)
          have hw : z_wl G (wC ad G st ++ wr) s (wC ad G (sS st 5 1) ++ wr) H locs := ⟨hP, hD, hS⟩
          refine lv_aload_n hx hb d_S_start_45 rfl (lv_at hl 1 rfl) ?_
          refine lv_iconst (v := 0) hx hb d_S_start_46 (by decide) ?_
          refine z_Vv0 (As := [.int 0]) (ws1 := (wC ad G (f_becomeUserState (sS st 5 1) 0) ++ wr)) ⟨hx, hb, hml, hown, hts⟩ (c_S_becomeUserState l G ad (sS st 5 1) wr _ 0) (cwV 1 hts gV_S_98 rfl rfl rfl (by decide +kernel) ⟨Nat.le_of_ble_eq_true rfl, Nat.le_of_ble_eq_true rfl⟩) h0 hw 0 rfl rfl rfl rfl hl.1 rfl (Nat.le_of_ble_eq_true rfl) d_S_start_47 ⟨Nat.le_of_ble_eq_true rfl, Nat.le_of_ble_eq_true rfl⟩ (fun H locs hw => ?_)
          have hI : InvC (f_becomeUserState (sS st 5 1) 0) := inv_f_becomeUserState hI
          refine lv_aload_n hx hb d_S_start_50 rfl (lv_at hl 1 rfl) ?_
          refine lv_iconst (v := 0) hx hb d_S_start_51 (by decide) ?_
          refine va_put (D := G.1) (ci := 2) (v := .int 0) (ty := .int) (C := R_S) (T := T_S) (N := 14) hx hb hts in_S ty_S ty_S_ok n_S hown h0.1 hw.1 hw.2.1 hw.2.2 0 rfl rfl 10 (by decide) (hg (.fieldLink R_S 47 "SecureEntry" "administratorRole" "I") (by decide +kernel)) (fun _ h9 => h9) rfl (by decide +kernel) rfl rfl (Nat.le_of_ble_eq_true rfl) d_S_start_52 (fun H locs hP hD hS => ?_)
          have hI : InvC (sS (f_becomeUserState (sS st 5 1) 0) 10 0) := inv_sS hI (by decide)
          have hw : z_wl G (wC ad G st ++ wr) s (wC ad G (sS (f_becomeUserState (sS st 5 1) 0) 10 0) ++ wr) H locs := ⟨hP, hD, hS⟩
          refine lv_aload_n hx hb d_S_start_55 rfl (lv_at hl 1 rfl) ?_
          refine va_get (D := G.1) (ci := 2) (v := .ref (ad 4)) (C := R_S) (T := T_S) (N := 14) hx hb hts in_S hown h0.1 hw.1 0 rfl rfl 3 (by decide) (hg (.fieldLink R_S 33 "SecureEntry" "log" "LSecureEntry$Log;") (by decide +kernel)) (fun _ h9 => h9) rfl d_S_start_56 ?_
          refine lv_iconst (v := 1) hx hb d_S_start_59 (by decide) ?_
          refine lv_aload_n hx hb d_S_start_60 rfl (lv_at hl 1 rfl) ?_
          refine va_get (D := G.1) (ci := 2) (v := .int ((f_becomeUserState (sS st 5 1) 0).1 4)) (C := R_S) (T := T_S) (N := 14) hx hb hts in_S hown h0.1 hw.1 0 rfl rfl 4 (by decide) (hg (.fieldLink R_S 101 "SecureEntry" "time" "I") (by decide +kernel)) (fun _ h9 => h9) rfl d_S_start_61 ?_
          refine lv_iconst (v := (-1)) hx hb d_S_start_64 (by decide) ?_
          refine z_Vv0 (As := [.int 1, .int ((f_becomeUserState (sS st 5 1) 0).1 4), .int (-1)]) (ws1 := (wC ad G (f_write (sS (f_becomeUserState (sS st 5 1) 0) 10 0) 1 ((f_becomeUserState (sS st 5 1) 0).1 4) (-1)) ++ wr)) ⟨hx, hb, hml, hown, hts⟩ (c_O_write l G ad (sS (f_becomeUserState (sS st 5 1) 0) 10 0) wr _ 1 ((f_becomeUserState (sS st 5 1) 0).1 4) (-1) (by first | assumption | exact hI.2.2.2.1 | exact hI.2.2.2.2 | (unfold vp_in; decide) | exact Or.inr (by assumption) | exact cof_mem hI | (intro a h; cases h; assumption) | exact (hI.2.1 _ (by assumption)).1)) (cwV 3 hts gV_S_104 rfl rfl rfl (by decide +kernel) ⟨Nat.le_of_ble_eq_true rfl, Nat.le_of_ble_eq_true rfl⟩) h0 hw 4 rfl rfl rfl rfl hl.1 rfl (Nat.le_of_ble_eq_true rfl) d_S_start_65 ⟨Nat.le_of_ble_eq_true rfl, Nat.le_of_ble_eq_true rfl⟩ (fun H locs hw => ?_)
          have hI : InvC (f_write (sS (f_becomeUserState (sS st 5 1) 0) 10 0) 1 ((f_becomeUserState (sS st 5 1) 0).1 4) (-1)) := inv_f_write hI
          refine lv_iload_n hx hb d_S_start_68 rfl (lv_at hl 0 rfl) ?_
          exact vx_ret (z_iret (wf := fun u : CS => (wC ad G u ++ wr)) (u := (f_write (sS (f_becomeUserState (sS st 5 1) 0) 10 0) 1 ((f_becomeUserState (sS st 5 1) 0).1 4) (-1))) hx hb hr hlocks h0 hw rfl (by rw [f_start, if_pos c_9, if_neg c_13, if_pos c_21, if_pos c_29]) (Nat.le_of_ble_eq_true rfl) (Nat.le_of_ble_eq_true rfl) d_S_start_69)
        · exact z_throw0 (cls := "java/lang/IllegalStateException") (ic := 93) hx hb hl9 hown (hg (.classLink R_S 91 "java/lang/IllegalStateException") (by decide +kernel)) (hg (.initialized "java/lang/IllegalStateException") (by decide +kernel)) (hat_S93 hts h0.2.1) (by decide +kernel) h0 hw (hl.1.trans hml.symm) d_S_start_32 d_S_start_35 d_S_start_36 d_S_start_39 hex (Nat.le_of_ble_eq_true rfl) (Nat.le_of_ble_eq_true rfl) (Nat.le_of_ble_eq_true rfl) (Nat.le_of_ble_eq_true rfl) hlocks (by rw [f_start, if_pos c_9, if_neg c_13, if_pos c_21, if_neg c_29]) (Nat.le_of_ble_eq_true rfl) (Nat.le_of_ble_eq_true rfl)
set_option maxHeartbeats 4000000 in
set_option maxRecDepth 100000 in
theorem c_S_pass (l : Launch) (hl9 : l.stackTraces = false) (G : gG) (ad : Nat → Nat) (st : CS) (wr : va_W) (sz : Nat) (p1 : Int32) (hI : InvC st) : vx_Met l y_S_pass w_S_pass { frames := 6, cells := 1, slots := 6, locals := 148 } (va_Pc [.ref (ad 0), .int p1] (z_pre G (wC ad G st ++ wr) sz)) (z_Qi G (wC ad G st ++ wr) sz (fun u : CS => (wC ad G u ++ wr)) (fun r u => f_pass st p1 = .inr (r, u))) (z_X G (wC ad G st ++ wr) sz (fun E => f_pass st p1 = .inl E)) 1 6 (va_A (wC ad G st ++ wr) sz) := by
  refine vx_ofW (cc := b_S_pass) (maxL := 3) (ret := (some .int)) (by decide) rfl ?_
  intro p e s m args below meth c s₁ B hml hex hv
  obtain ⟨rfl, hsz, hP, hK, hD0, ham⟩ := hv
  subst hsz
  have hx := B.exec
  have hb := B.bytes
  have hr := B.returns
  have hts : ∀ w ∈ goT, w.before _ s = true := fun w h => atoms_spec (ws := w_S_pass) B.pre w (List.mem_cons_of_mem _ h)
  have hg : ∀ w, goB w = true → w.before _ s = true := fun w h => hts w (goI h)
  have hown : s.vm.findClass R_S = some m.cls := findClass_of_methodNamed B.named
  have hlocks := B.notSynchronized
  have h0 : z_st G (wC ad G st ++ wr) s := ⟨hK, ham⟩
  have hw : z_wl G (wC ad G st ++ wr) s (wC ad G st ++ wr) s.heap [] := z_0 hP hD0
  have hl := lv_entry ([.ref (ad 0), .int p1]) (n := 3) (Nat.le_of_ble_eq_true rfl)
  rw [lg_entry_eq]
  generalize (lg_sl ([.ref (ad 0), .int p1]) ++ List.replicate (3 - (lg_sl ([.ref (ad 0), .int p1])).length) Slot.unset).toArray = ls at hl ⊢
  have hl : lv_has ls 3 [(0, .ref (ad 0)), (1, .int p1)] := hl
  have loop : ∀ N : Nat, N < 2 ^ 31 → p1 = nI N → ¬ f_isWithin p1 1 1000 = 0 → p1 ≤ 100000 - (st.1 4) → ∀ (n i : Nat), i ≤ N → N + 1 ≤ i + n → ∀ (H : Heap) (locs : List Loc), z_wl G (wC ad G st ++ wr) s (wC ad G (f_secs st i) ++ wr) H locs → InvC (f_secs st i) → ∀ (ls : Array Slot), lv_has ls 3 [(2, .int (nI i)), (0, .ref (ad 0)), (1, .int p1)] → W p l e (headSpec w_S_pass { frames := 6, cells := 1, slots := 6, locals := 148 }).room s m #[.ref (ad 0), .int p1] below meth c H locs 0 0 (vx_MQ below (z_Qi G (wC ad G st ++ wr) s.heap.size (fun u : CS => (wC ad G u ++ wr)) (fun r u => f_pass st p1 = .inr (r, u))) (z_X G (wC ad G st ++ wr) s.heap.size (fun E => f_pass st p1 = .inl E)) #[.ref (ad 0), .int p1] s 1 6 (va_A (wC ad G st ++ wr) s.heap.size)) (F0 m 32 ls []) := by
    intro N hN eN c_8 c_19 n
    induction n with
    | zero => intro i h1 h2; exact absurd h2 (by omega)
    | succ n ih =>
      intro i h1 h2 H locs hw hI ls hl
      refine lv_iload_n hx hb d_S_pass_32 rfl (lv_at hl 0 rfl) ?_
      refine lv_iload_n hx hb d_S_pass_33 rfl (lv_at hl 2 rfl) ?_
      refine lv_icmp_ge (tgt := 61) hx hb d_S_pass_34 (by decide) (fun c_34 => ?_) (fun c_34 => ?_)
      · have hi : i = N := Nat.le_antisymm h1 ((nI_leI hN (by omega)).mp (eN ▸ c_34))
        refine lv_aload_n hx hb d_S_pass_61 rfl (lv_at hl 1 rfl) ?_
        refine va_get (D := G.1) (ci := 2) (v := .int ((f_secs st i).1 4)) (C := R_S) (T := T_S) (N := 14) hx hb hts in_S hown h0.1 hw.1 0 rfl rfl 4 (by decide) (hg (.fieldLink R_S 101 "SecureEntry" "time" "I") (by decide +kernel)) (fun _ h9 => h9) rfl d_S_pass_62 ?_
        exact vx_ret (z_iret (wf := fun u : CS => (wC ad G u ++ wr)) (post := fun r u => f_pass st p1 = .inr (r, u)) (u := f_secs st i) hx hb hr hlocks h0 hw rfl (by rw [f_pass, if_neg c_8, if_pos c_19, show p1.toNatClampNeg = i by rw [eN, nI_clamp hN, hi]]) (Nat.le_of_ble_eq_true rfl) (Nat.le_of_ble_eq_true rfl) d_S_pass_65)
      · have hi : i < N := (nI_ltI (by omega) hN).mp (Int32.not_le.mp (eN ▸ c_34))
        refine lv_aload_n hx hb d_S_pass_37 rfl (lv_at hl 1 rfl) ?_
        refine lv_dup hx hb d_S_pass_38 rfl ?_
        refine va_get (D := G.1) (ci := 2) (v := .int ((f_secs st i).1 4)) (C := R_S) (T := T_S) (N := 14) hx hb hts in_S hown h0.1 hw.1 0 rfl rfl 4 (by decide) (hg (.fieldLink R_S 101 "SecureEntry" "time" "I") (by decide +kernel)) (fun _ h9 => h9) rfl d_S_pass_39 ?_
        refine lv_iconst (v := 1) hx hb d_S_pass_42 (by decide) ?_
        refine lv_iadd hx hb d_S_pass_43 ?_
        refine va_put (D := G.1) (ci := 2) (v := .int (((f_secs st i).1 4) + 1)) (ty := .int) (C := R_S) (T := T_S) (N := 14) hx hb hts in_S ty_S ty_S_ok n_S hown h0.1 hw.1 hw.2.1 hw.2.2 0 rfl rfl 4 (by decide) (hg (.fieldLink R_S 101 "SecureEntry" "time" "I") (by decide +kernel)) (fun _ h9 => h9) rfl (by decide +kernel) rfl rfl (Nat.le_of_ble_eq_true rfl) d_S_pass_44 (fun H locs hP hD hS => ?_)
        have hI : InvC (sS (f_secs st i) 4 (((f_secs st i).1 4) + 1)) := inv_sS hI (by decide)
        have hw : z_wl G (wC ad G st ++ wr) s (wC ad G (sS (f_secs st i) 4 (((f_secs st i).1 4) + 1)) ++ wr) H locs := ⟨hP, hD, hS⟩
        refine lv_aload_n hx hb d_S_pass_47 rfl (lv_at hl 1 rfl) ?_
        refine z_Vv0 (As := []) (ws1 := (wC ad G (f_endWaitingInTime (sS (f_secs st i) 4 (((f_secs st i).1 4) + 1))) ++ wr)) ⟨hx, hb, hml, hown, hts⟩ (c_S_endWaitingInTime l G ad (sS (f_secs st i) 4 (((f_secs st i).1 4) + 1)) wr _  (by first | assumption | exact hI.2.2.2.1 | exact hI.2.2.2.2 | (unfold vp_in; decide) | exact Or.inr (by assumption) | exact cof_mem hI | (intro a h; cases h; assumption) | exact (hI.2.1 _ (by assumption)).1)) (cwV 0 hts gV_S_184 rfl rfl rfl (by decide +kernel) ⟨Nat.le_of_ble_eq_true rfl, Nat.le_of_ble_eq_true rfl⟩) h0 hw 0 rfl rfl rfl rfl hl.1 rfl (Nat.le_of_ble_eq_true rfl) d_S_pass_48 ⟨Nat.le_of_ble_eq_true rfl, Nat.le_of_ble_eq_true rfl⟩ (fun H locs hw => ?_)
        have hI : InvC (f_endWaitingInTime (sS (f_secs st i) 4 (((f_secs st i).1 4) + 1))) := inv_f_endWaitingInTime hI
        refine lv_aload_n hx hb d_S_pass_51 rfl (lv_at hl 1 rfl) ?_
        refine z_Vv0 (As := []) (ws1 := (wC ad G (f_endAdministrationInTime (f_endWaitingInTime (sS (f_secs st i) 4 (((f_secs st i).1 4) + 1)))) ++ wr)) ⟨hx, hb, hml, hown, hts⟩ (c_S_endAdministrationInTime l G ad (f_endWaitingInTime (sS (f_secs st i) 4 (((f_secs st i).1 4) + 1))) wr _  (by first | assumption | exact hI.2.2.2.1 | exact hI.2.2.2.2 | (unfold vp_in; decide) | exact Or.inr (by assumption) | exact cof_mem hI | (intro a h; cases h; assumption) | exact (hI.2.1 _ (by assumption)).1)) (cwV 0 hts gV_S_187 rfl rfl rfl (by decide +kernel) ⟨Nat.le_of_ble_eq_true rfl, Nat.le_of_ble_eq_true rfl⟩) h0 hw 0 rfl rfl rfl rfl hl.1 rfl (Nat.le_of_ble_eq_true rfl) d_S_pass_52 ⟨Nat.le_of_ble_eq_true rfl, Nat.le_of_ble_eq_true rfl⟩ (fun H locs hw => ?_)
        have hI : InvC (f_endAdministrationInTime (f_endWaitingInTime (sS (f_secs st i) 4 (((f_secs st i).1 4) + 1)))) := inv_f_endAdministrationInTime hI
        refine lv_iinc (v := ((nI i) + 1)) (lv' := [(2, .int ((nI i) + 1)), (0, .ref (ad 0)), (1, .int p1)]) hx hb d_S_pass_55 hl (k := 0) rfl rfl (by decide) rfl (fun ls hl => ?_)
        refine lv_goto (tgt := 32) hx hb d_S_pass_58 (by decide) ?_
        have hl := lv_sub hl [0, 1, 2] rfl
        exact ih (i + 1) (by omega) (by omega) H locs hw hI ls (by rw [← nI_1]; exact hl)
  refine lv_iload_n hx hb d_S_pass_0 rfl (lv_at hl 1 rfl) ?_
  refine lv_iconst (v := 1) hx hb d_S_pass_1 (by decide) ?_
  refine lv_sipush (v := 1000) hx hb d_S_pass_2 (by decide) ?_
  refine z_Si0 (As := [.int p1, .int 1, .int 1000]) (v := (f_isWithin p1 1 1000)) ⟨hx, hb, hml, hown, hts⟩ (c_S_isWithin l G (wC ad G st ++ wr) _ p1 1 1000) (cwS 3 hts gS_S_69 rfl rfl rfl (by decide +kernel) ⟨Nat.le_of_ble_eq_true rfl, Nat.le_of_ble_eq_true rfl⟩) h0 hw rfl hl.1 rfl (Nat.le_of_ble_eq_true rfl) d_S_pass_5 ⟨Nat.le_of_ble_eq_true rfl, Nat.le_of_ble_eq_true rfl⟩ (fun H locs hw => ?_)
  refine lv_if_eq (tgt := 22) hx hb d_S_pass_8 (by decide) (fun c_8 => ?_) (fun c_8 => ?_)
  · exact z_throw0 (cls := "java/lang/IllegalArgumentException") (ic := 56) hx hb hl9 hown (hg (.classLink R_S 54 "java/lang/IllegalArgumentException") (by decide +kernel)) (hg (.initialized "java/lang/IllegalArgumentException") (by decide +kernel)) (hat_S56 hts h0.2.1) (by decide +kernel) h0 hw (hl.1.trans hml.symm) d_S_pass_22 d_S_pass_25 d_S_pass_26 d_S_pass_29 hex (Nat.le_of_ble_eq_true rfl) (Nat.le_of_ble_eq_true rfl) (Nat.le_of_ble_eq_true rfl) (Nat.le_of_ble_eq_true rfl) hlocks (by rw [f_pass, if_pos c_8]) (Nat.le_of_ble_eq_true rfl) (Nat.le_of_ble_eq_true rfl)
  · refine lv_iload_n hx hb d_S_pass_11 rfl (lv_at hl 1 rfl) ?_
    refine lv_ldc hx hb hown (hg (.constant R_S 183 100000) (by decide +kernel)) d_S_pass_12 ?_
    refine lv_aload_n hx hb d_S_pass_14 rfl (lv_at hl 0 rfl) ?_
    refine va_get (D := G.1) (ci := 2) (v := .int (st.1 4)) (C := R_S) (T := T_S) (N := 14) hx hb hts in_S hown h0.1 hw.1 0 rfl rfl 4 (by decide) (hg (.fieldLink R_S 101 "SecureEntry" "time" "I") (by decide +kernel)) (fun _ h9 => h9) rfl d_S_pass_15 ?_
    refine lv_isub hx hb d_S_pass_18 ?_
    refine lv_icmp_le (tgt := 30) hx hb d_S_pass_19 (by decide) (fun c_19 => ?_) (fun c_19 => ?_)
    · obtain ⟨N, hN, eN⟩ := win_1 c_8
      refine lv_iconst (v := 0) hx hb d_S_pass_30 (by decide) ?_
      refine lv_istore_n (lv' := [(2, .int 0), (0, .ref (ad 0)), (1, .int p1)]) hx hb d_S_pass_31 rfl hl (by decide) rfl (fun ls hl => ?_)
      exact loop N hN eN c_8 c_19 (N + 1) 0 (Nat.zero_le _) (by omega) _ _ hw hI ls hl
    · exact z_throw0 (cls := "java/lang/IllegalArgumentException") (ic := 56) hx hb hl9 hown (hg (.classLink R_S 54 "java/lang/IllegalArgumentException") (by decide +kernel)) (hg (.initialized "java/lang/IllegalArgumentException") (by decide +kernel)) (hat_S56 hts h0.2.1) (by decide +kernel) h0 hw (hl.1.trans hml.symm) d_S_pass_22 d_S_pass_25 d_S_pass_26 d_S_pass_29 hex (Nat.le_of_ble_eq_true rfl) (Nat.le_of_ble_eq_true rfl) (Nat.le_of_ble_eq_true rfl) (Nat.le_of_ble_eq_true rfl) hlocks (by rw [f_pass, if_neg c_8, if_neg c_19]) (Nat.le_of_ble_eq_true rfl) (Nat.le_of_ble_eq_true rfl)
end LC
