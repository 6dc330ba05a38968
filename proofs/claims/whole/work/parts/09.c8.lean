section CON
set_option maxHeartbeats 4000000 in
set_option maxRecDepth 100000 in
theorem c_S_certify (l : Launch) (hl9 : l.stackTraces = false) (G : gG) (ad : Nat → Nat) (st : CS) (wr : va_W) (sz : Nat) (p1 : Int32) (p2 : Int32) (p3 : Int32) (p4 : Int32) (p5 : Int32) (p6 : Int32) (p7 : Int32) (p8 : Int32) (hI : InvC st) : vx_Met l y_S_certify w_S_certify { frames := 7, cells := 3, slots := 19, locals := 102 } (va_Pc [.ref (ad 0), .int p1, .int p2, .int p3, .int p4, .int p5, .int p6, .int p7, .int p8] (z_pre G (wC ad G st ++ wr) sz)) (z_Qi G (wC ad G st ++ wr) sz (fun u : CS => (wC ad G u ++ wr)) (fun r u => ∃ q9, q9 ∉ st.2.2.2.1 ∧ f_certify st p1 p2 p3 p4 p5 p6 p7 p8 q9 = .inr (r, u))) (z_X G (wC ad G st ++ wr) sz (fun E => ∀ q9, f_certify st p1 p2 p3 p4 p5 p6 p7 p8 q9 = .inl E)) 3 19 (va_A (wC ad G st ++ wr) sz) := by
  refine vx_ofW (cc := b_S_certify) (maxL := 10) (ret := (some .int)) (by decide) rfl ?_
  intro p e s m args below meth c s₁ B hml hex hv
  obtain ⟨rfl, hsz, hP, hK, hD0, ham⟩ := hv
  subst hsz
  have hx := B.exec
  have hb := B.bytes
  have hr := B.returns
  have hts : ∀ w ∈ goT, w.before _ s = true := fun w h => atoms_spec (ws := w_S_certify) B.pre w (List.mem_cons_of_mem _ h)
  have hg : ∀ w, goB w = true → w.before _ s = true := fun w h => hts w (goI h)
  have hown : s.vm.findClass R_S = some m.cls := findClass_of_methodNamed B.named
  have hlocks := B.notSynchronized
  have h0 : z_st G (wC ad G st ++ wr) s := ⟨hK, ham⟩
  have hw : z_wl G (wC ad G st ++ wr) s (wC ad G st ++ wr) s.heap [] := z_0 hP hD0
  have hl := lv_entry ([.ref (ad 0), .int p1, .int p2, .int p3, .int p4, .int p5, .int p6, .int p7, .int p8]) (n := 10) (Nat.le_of_ble_eq_true rfl)
  rw [lg_entry_eq]
  generalize (lg_sl ([.ref (ad 0), .int p1, .int p2, .int p3, .int p4, .int p5, .int p6, .int p7, .int p8]) ++ List.replicate (10 - (lg_sl ([.ref (ad 0), .int p1, .int p2, .int p3, .int p4, .int p5, .int p6, .int p7, .int p8])).length) Slot.unset).toArray = ls at hl ⊢
  have hl : lv_has ls 10 [(0, .ref (ad 0)), (1, .int p1), (2, .int p2), (3, .int p3), (4, .int p4), (5, .int p5), (6, .int p6), (7, .int p7), (8, .int p8)] := hl
  refine lv_iload_n hx hb d_S_certify_0 rfl (lv_at hl 1 rfl) ?_
  refine z_SXn (As := [.int p1]) (P := fun E => (f_requireToken p1) = some E) (N := (f_requireToken p1) = none) ⟨hx, hb, hml, hown, hts⟩ (c_S_requireToken l hl9 G (wC ad G st ++ wr) _ p1) (cwS 1 hts gS_S_65 rfl rfl rfl (by decide +kernel) ⟨Nat.le_of_ble_eq_true rfl, Nat.le_of_ble_eq_true rfl⟩) h0 hw rfl hl.1 rfl (Nat.le_of_ble_eq_true rfl) d_S_certify_1 ⟨Nat.le_of_ble_eq_true rfl, Nat.le_of_ble_eq_true rfl⟩ (fun E ce q9 H locs hE hw hce hcv hcl => z_out hex hlocks h0 hw hce hcv hcl (by intro q9; rw [f_certify, hE, exo_some]) (Nat.le_of_ble_eq_true rfl) (Nat.le_of_ble_eq_true rfl)) (fun H locs hn_1 hw => ?_)
  have hp1 : vp_in p1 6 := rtk_in hn_1
  refine lv_iload_n hx hb d_S_certify_4 rfl (lv_at hl 2 rfl) ?_
  refine lv_iload_n hx hb d_S_certify_5 rfl (lv_at hl 3 rfl) ?_
  refine lv_iload hx hb d_S_certify_6 (lv_at hl 4 rfl) ?_
  refine lv_iload hx hb d_S_certify_8 (lv_at hl 5 rfl) ?_
  refine lv_iload hx hb d_S_certify_10 (lv_at hl 6 rfl) ?_
  refine lv_iload hx hb d_S_certify_12 (lv_at hl 7 rfl) ?_
  refine z_Si0 (As := [.int p2, .int p3, .int p4, .int p5, .int p6, .int p7]) (v := (f_areCertificateNumbers p2 p3 p4 p5 p6 p7)) ⟨hx, hb, hml, hown, hts⟩ (c_S_areCertificateNumbers l G (wC ad G st ++ wr) _ p2 p3 p4 p5 p6 p7) (cwS 6 hts gS_S_50 rfl rfl rfl (by decide +kernel) ⟨Nat.le_of_ble_eq_true rfl, Nat.le_of_ble_eq_true rfl⟩) h0 hw rfl hl.1 rfl (Nat.le_of_ble_eq_true rfl) d_S_certify_14 ⟨Nat.le_of_ble_eq_true rfl, Nat.le_of_ble_eq_true rfl⟩ (fun H locs hw => ?_)
  refine lv_if_eq (tgt := 32) hx hb d_S_certify_17 (by decide) (fun c_17 => ?_) (fun c_17 => ?_)
  · exact z_throw0 (cls := "java/lang/IllegalArgumentException") (ic := 56) hx hb hl9 hown (hg (.classLink R_S 54 "java/lang/IllegalArgumentException") (by decide +kernel)) (hg (.initialized "java/lang/IllegalArgumentException") (by decide +kernel)) (hat_S56 hts h0.2.1) (by decide +kernel) h0 hw (hl.1.trans hml.symm) d_S_certify_32 d_S_certify_35 d_S_certify_36 d_S_certify_39 hex (Nat.le_of_ble_eq_true rfl) (Nat.le_of_ble_eq_true rfl) (Nat.le_of_ble_eq_true rfl) (Nat.le_of_ble_eq_true rfl) hlocks (by intro q9; rw [f_certify, hn_1, exo_none, if_pos c_17]) (Nat.le_of_ble_eq_true rfl) (Nat.le_of_ble_eq_true rfl)
  · refine lv_iload hx hb d_S_certify_20 (lv_at hl 8 rfl) ?_
    refine lv_iconst (v := 0) hx hb d_S_certify_22 (by decide) ?_
    refine lv_sipush (v := 9972) hx hb d_S_certify_23 (by decide) ?_
    refine z_Si0 (As := [.int p8, .int 0, .int 9972]) (v := (f_isWithin p8 0 9972)) ⟨hx, hb, hml, hown, hts⟩ (c_S_isWithin l G (wC ad G st ++ wr) _ p8 0 9972) (cwS 3 hts gS_S_69 rfl rfl rfl (by decide +kernel) ⟨Nat.le_of_ble_eq_true rfl, Nat.le_of_ble_eq_true rfl⟩) h0 hw rfl hl.1 rfl (Nat.le_of_ble_eq_true rfl) d_S_certify_26 ⟨Nat.le_of_ble_eq_true rfl, Nat.le_of_ble_eq_true rfl⟩ (fun H locs hw => ?_)
    refine lv_if_ne (tgt := 40) hx hb d_S_certify_29 (by decide) (fun c_29 => ?_) (fun c_29 => ?_)
    · have hp2 : vp_in p2 4 := acn_kind c_17
      have hp3 : vp_in p3 7 := acn_iss c_17
      refine lv_aload_n hx hb d_S_certify_40 rfl (lv_at hl 0 rfl) ?_
      refine lv_iload_n hx hb d_S_certify_41 rfl (lv_at hl 1 rfl) ?_
      refine z_VXn (As := [.int p1]) (P := fun E => (f_requireInNoReader st p1) = some E) (N := (f_requireInNoReader st p1) = none) ⟨hx, hb, hml, hown, hts⟩ (c_S_requireInNoReader l hl9 G ad st wr _ p1) (cwV 1 hts gV_S_73 rfl rfl rfl (by decide +kernel) ⟨Nat.le_of_ble_eq_true rfl, Nat.le_of_ble_eq_true rfl⟩) h0 hw 0 rfl rfl rfl rfl hl.1 rfl (Nat.le_of_ble_eq_true rfl) d_S_certify_42 ⟨Nat.le_of_ble_eq_true rfl, Nat.le_of_ble_eq_true rfl⟩ (fun E ce q9 H locs hE hw hce hcv hcl => z_out hex hlocks h0 hw hce hcv hcl (by intro q9; rw [f_certify, hn_1, exo_none, if_neg c_17, if_neg c_29, hE, exo_some]) (Nat.le_of_ble_eq_true rfl) (Nat.le_of_ble_eq_true rfl)) (fun H locs hn_42 hw => ?_)
      refine lv_aload_n hx hb d_S_certify_45 rfl (lv_at hl 0 rfl) ?_
      refine lv_iload_n hx hb d_S_certify_46 rfl (lv_at hl 1 rfl) ?_
      refine lv_iload_n hx hb d_S_certify_47 rfl (lv_at hl 2 rfl) ?_
      refine z_Vq0 (As := [.int p1, .int p2]) (v := (f_certificateOf st p1 p2)) ⟨hx, hb, hml, hown, hts⟩ (c_S_certificateOf l G ad st wr _ p1 p2 (by first | assumption | exact hI.2.2.2.1 | exact hI.2.2.2.2 | (unfold vp_in; decide) | exact Or.inr (by assumption) | exact cof_mem hI | (intro a h; cases h; assumption) | exact (hI.2.1 _ (by assumption)).1) (by first | assumption | exact hI.2.2.2.1 | exact hI.2.2.2.2 | (unfold vp_in; decide) | exact Or.inr (by assumption) | exact cof_mem hI | (intro a h; cases h; assumption) | exact (hI.2.1 _ (by assumption)).1)) (cwV 2 hts gV_S_76 rfl rfl rfl (by decide +kernel) ⟨Nat.le_of_ble_eq_true rfl, Nat.le_of_ble_eq_true rfl⟩) h0 hw 0 rfl rfl rfl rfl hl.1 rfl (Nat.le_of_ble_eq_true rfl) d_S_certify_48 ⟨Nat.le_of_ble_eq_true rfl, Nat.le_of_ble_eq_true rfl⟩ (fun H locs hw => ?_)
      refine z_ifnonnull (r := (f_certificateOf st p1 p2)) (tgt := 58) hx hb d_S_certify_51 (by decide) (fun e_51 => ?_) (fun a_51 e_51 => ?_)
      · refine lv_iconst (v := 1) hx hb d_S_certify_54 (by decide) ?_
        refine lv_goto (tgt := 59) hx hb d_S_certify_55 (by decide) ?_
        refine lv_istore (lv' := [(9, .int 1), (0, .ref (ad 0)), (1, .int p1), (2, .int p2), (3, .int p3), (4, .int p4), (5, .int p5), (6, .int p6), (7, .int p7), (8, .int p8)]) hx hb d_S_certify_59 hl (by decide) rfl (fun ls hl => ?_)
        refine lv_aload_n hx hb d_S_certify_61 rfl (lv_at hl 1 rfl) ?_
        refine lv_iload_n hx hb d_S_certify_62 rfl (lv_at hl 2 rfl) ?_
        refine va_new (D := G.1) (ci := 0) (fs := [.int 0, .int 0, .int 0, .int 0, .int 0, .int 0, .int 0]) (C := R_C) (T := T_C) (N := 7) hx hb hts in_C ty_C ty_C_ok hown (hg (.classLink R_S 24 R_C) (by decide +kernel)) (hg (.instantiable R_C 7) (by decide +kernel)) (hg (.initialized R_C) (by decide +kernel)) h0.1 hw.1 hw.2.1 hw.2.2 (fun q h => Or.inr h) rfl (fun j hj => by rcases (show j = 0 ∨ j = 1 ∨ j = 2 ∨ j = 3 ∨ j = 4 ∨ j = 5 ∨ j = 6 by omega) with rfl | rfl | rfl | rfl | rfl | rfl | rfl <;> rfl) (Nat.le_of_ble_eq_true rfl) (Nat.le_of_ble_eq_true rfl) d_S_certify_63 (fun q_63 H hP hD hS => ?_)
        have hw := z_asc (G := G) (ws0 := (wC ad G st ++ wr)) (s := s) (a := wC ad G st) (b := wr) (c := [(q_63, .inr (0, [.int 0, .int 0, .int 0, .int 0, .int 0, .int 0, .int 0]))]) hP hD hS
        refine lv_dup hx hb d_S_certify_66 rfl ?_
        refine lv_iload_n hx hb d_S_certify_67 rfl (lv_at hl 3 rfl) ?_
        refine lv_iload_n hx hb d_S_certify_68 rfl (lv_at hl 4 rfl) ?_
        refine lv_iload hx hb d_S_certify_69 (lv_at hl 5 rfl) ?_
        refine lv_iload hx hb d_S_certify_71 (lv_at hl 6 rfl) ?_
        refine lv_iload hx hb d_S_certify_73 (lv_at hl 7 rfl) ?_
        refine lv_iload hx hb d_S_certify_75 (lv_at hl 8 rfl) ?_
        refine lv_iload hx hb d_S_certify_77 (lv_at hl 9 rfl) ?_
        have hw := z_csa hw
        refine z_Iv0 (As := [.int p2, .int p3, .int p4, .int p5, .int p6, .int p7, .int p8]) (ws1 := (wC ad G st ++ wr) ++ [(q_63, .inr (0, [.int p2, .int p3, .int p4, .int p5, .int p6, .int p7, .int p8]))]) ⟨hx, hb, hml, hown, hts⟩ (c_C_init l G (wC ad G st ++ wr) _ q_63 p2 p3 p4 p5 p6 p7 p8) (cwI 7 hts gI_C_init rfl rfl rfl (hg (.initialized R_C) (by decide +kernel)) (hg (.methodLink R_S 80 y_C_init) (by decide +kernel)) (hg (.instanceMethod y_C_init) (by decide +kernel)) rfl (by decide +kernel) ⟨Nat.le_of_ble_eq_true rfl, Nat.le_of_ble_eq_true rfl⟩) h0 hw rfl hl.1 rfl (Nat.le_of_ble_eq_true rfl) d_S_certify_79 ⟨Nat.le_of_ble_eq_true rfl, Nat.le_of_ble_eq_true rfl⟩ (fun H locs hw => ?_)
        obtain ⟨hq_q_63, hw⟩ := z_into (w := w7 p2 p3 p4 p5 p6 p7 p8) hw
        have hm_q_63 : q_63 ∈ (sN st q_63 (w7 p2 p3 p4 p5 p6 p7 p8)).2.2.2.1 := z_inN
        have hI : InvC (sN st q_63 (w7 p2 p3 p4 p5 p6 p7 p8)) := inv_sN hI (by first | assumption | exact hI.2.2.2.1 | exact hI.2.2.2.2 | (unfold vp_in; decide) | exact Or.inr (by assumption) | exact cof_mem hI | (intro a h; cases h; assumption) | exact (hI.2.1 _ (by assumption)).1) (by first | assumption | exact hI.2.2.2.1 | exact hI.2.2.2.2 | (unfold vp_in; decide) | exact Or.inr (by assumption) | exact cof_mem hI | (intro a h; cases h; assumption) | exact (hI.2.1 _ (by assumption)).1)
        refine z_Vv0 (As := [.int p1, .ref q_63]) (ws1 := (wC ad G (f_give (sN st q_63 (w7 p2 p3 p4 p5 p6 p7 p8)) p1 q_63) ++ wr)) ⟨hx, hb, hml, hown, hts⟩ (c_S_give l G ad (sN st q_63 (w7 p2 p3 p4 p5 p6 p7 p8)) wr _ p1 q_63 (by first | assumption | exact hI.2.2.2.1 | exact hI.2.2.2.2 | (unfold vp_in; decide) | exact Or.inr (by assumption) | exact cof_mem hI | (intro a h; cases h; assumption) | exact (hI.2.1 _ (by assumption)).1) (by first | assumption | exact hI.2.2.2.1 | exact hI.2.2.2.2 | (unfold vp_in; decide) | exact Or.inr (by assumption) | exact cof_mem hI | (intro a h; cases h; assumption) | exact (hI.2.1 _ (by assumption)).1) (by first | assumption | exact hI.2.2.2.1 | exact hI.2.2.2.2 | (unfold vp_in; decide) | exact Or.inr (by assumption) | exact cof_mem hI | (intro a h; cases h; assumption) | exact (hI.2.1 _ (by assumption)).1)) (cwV 2 hts gV_S_83 rfl rfl rfl (by decide +kernel) ⟨Nat.le_of_ble_eq_true rfl, Nat.le_of_ble_eq_true rfl⟩) h0 hw 0 rfl rfl rfl rfl hl.1 rfl (Nat.le_of_ble_eq_true rfl) d_S_certify_82 ⟨Nat.le_of_ble_eq_true rfl, Nat.le_of_ble_eq_true rfl⟩ (fun H locs hw => ?_)
        have hI : InvC (f_give (sN st q_63 (w7 p2 p3 p4 p5 p6 p7 p8)) p1 q_63) := inv_f_give hI (by assumption)
        refine lv_iload hx hb d_S_certify_85 (lv_at hl 0 rfl) ?_
        refine lv_if_eq (tgt := 94) hx hb d_S_certify_87 (by decide) (fun c_87 => ?_) (fun c_87 => ?_)
        · exact absurd c_87 (by decide)
        · refine lv_iconst (v := 1) hx hb d_S_certify_90 (by decide) ?_
          refine lv_goto (tgt := 95) hx hb d_S_certify_91 (by decide) ?_
          exact vx_ret (z_iret (wf := fun u : CS => (wC ad G u ++ wr)) (u := (f_give (sN st q_63 (w7 p2 p3 p4 p5 p6 p7 p8)) p1 q_63)) hx hb hr hlocks h0 hw rfl ⟨q_63, hq_q_63, by rw [f_certify, hn_1, exo_none, if_neg c_17, if_neg c_29, hn_42, exo_none, e_51, oel_none]⟩ (Nat.le_of_ble_eq_true rfl) (Nat.le_of_ble_eq_true rfl) d_S_certify_95)
      · refine lv_iconst (v := 0) hx hb d_S_certify_58 (by decide) ?_
        refine lv_istore (lv' := [(9, .int 0), (0, .ref (ad 0)), (1, .int p1), (2, .int p2), (3, .int p3), (4, .int p4), (5, .int p5), (6, .int p6), (7, .int p7), (8, .int p8)]) hx hb d_S_certify_59 hl (by decide) rfl (fun ls hl => ?_)
        refine lv_aload_n hx hb d_S_certify_61 rfl (lv_at hl 1 rfl) ?_
        refine lv_iload_n hx hb d_S_certify_62 rfl (lv_at hl 2 rfl) ?_
        refine va_new (D := G.1) (ci := 0) (fs := [.int 0, .int 0, .int 0, .int 0, .int 0, .int 0, .int 0]) (C := R_C) (T := T_C) (N := 7) hx hb hts in_C ty_C ty_C_ok hown (hg (.classLink R_S 24 R_C) (by decide +kernel)) (hg (.instantiable R_C 7) (by decide +kernel)) (hg (.initialized R_C) (by decide +kernel)) h0.1 hw.1 hw.2.1 hw.2.2 (fun q h => Or.inr h) rfl (fun j hj => by rcases (show j = 0 ∨ j = 1 ∨ j = 2 ∨ j = 3 ∨ j = 4 ∨ j = 5 ∨ j = 6 by omega) with rfl | rfl | rfl | rfl | rfl | rfl | rfl <;> rfl) (Nat.le_of_ble_eq_true rfl) (Nat.le_of_ble_eq_true rfl) d_S_certify_63 (fun q_63 H hP hD hS => ?_)
        have hw := z_asc (G := G) (ws0 := (wC ad G st ++ wr)) (s := s) (a := wC ad G st) (b := wr) (c := [(q_63, .inr (0, [.int 0, .int 0, .int 0, .int 0, .int 0, .int 0, .int 0]))]) hP hD hS
        refine lv_dup hx hb d_S_certify_66 rfl ?_
        refine lv_iload_n hx hb d_S_certify_67 rfl (lv_at hl 3 rfl) ?_
        refine lv_iload_n hx hb d_S_certify_68 rfl (lv_at hl 4 rfl) ?_
        refine lv_iload hx hb d_S_certify_69 (lv_at hl 5 rfl) ?_
        refine lv_iload hx hb d_S_certify_71 (lv_at hl 6 rfl) ?_
        refine lv_iload hx hb d_S_certify_73 (lv_at hl 7 rfl) ?_
        refine lv_iload hx hb d_S_certify_75 (lv_at hl 8 rfl) ?_
        refine lv_iload hx hb d_S_certify_77 (lv_at hl 9 rfl) ?_
        have hw := z_csa hw
        refine z_Iv0 (As := [.int p2, .int p3, .int p4, .int p5, .int p6, .int p7, .int p8]) (ws1 := (wC ad G st ++ wr) ++ [(q_63, .inr (0, [.int p2, .int p3, .int p4, .int p5, .int p6, .int p7, .int p8]))]) ⟨hx, hb, hml, hown, hts⟩ (c_C_init l G (wC ad G st ++ wr) _ q_63 p2 p3 p4 p5 p6 p7 p8) (cwI 7 hts gI_C_init rfl rfl rfl (hg (.initialized R_C) (by decide +kernel)) (hg (.methodLink R_S 80 y_C_init) (by decide +kernel)) (hg (.instanceMethod y_C_init) (by decide +kernel)) rfl (by decide +kernel) ⟨Nat.le_of_ble_eq_true rfl, Nat.le_of_ble_eq_true rfl⟩) h0 hw rfl hl.1 rfl (Nat.le_of_ble_eq_true rfl) d_S_certify_79 ⟨Nat.le_of_ble_eq_true rfl, Nat.le_of_ble_eq_true rfl⟩ (fun H locs hw => ?_)
        obtain ⟨hq_q_63, hw⟩ := z_into (w := w7 p2 p3 p4 p5 p6 p7 p8) hw
        have hm_q_63 : q_63 ∈ (sN st q_63 (w7 p2 p3 p4 p5 p6 p7 p8)).2.2.2.1 := z_inN
        have hI : InvC (sN st q_63 (w7 p2 p3 p4 p5 p6 p7 p8)) := inv_sN hI (by first | assumption | exact hI.2.2.2.1 | exact hI.2.2.2.2 | (unfold vp_in; decide) | exact Or.inr (by assumption) | exact cof_mem hI | (intro a h; cases h; assumption) | exact (hI.2.1 _ (by assumption)).1) (by first | assumption | exact hI.2.2.2.1 | exact hI.2.2.2.2 | (unfold vp_in; decide) | exact Or.inr (by assumption) | exact cof_mem hI | (intro a h; cases h; assumption) | exact (hI.2.1 _ (by assumption)).1)
        refine z_Vv0 (As := [.int p1, .ref q_63]) (ws1 := (wC ad G (f_give (sN st q_63 (w7 p2 p3 p4 p5 p6 p7 p8)) p1 q_63) ++ wr)) ⟨hx, hb, hml, hown, hts⟩ (c_S_give l G ad (sN st q_63 (w7 p2 p3 p4 p5 p6 p7 p8)) wr _ p1 q_63 (by first | assumption | exact hI.2.2.2.1 | exact hI.2.2.2.2 | (unfold vp_in; decide) | exact Or.inr (by assumption) | exact cof_mem hI | (intro a h; cases h; assumption) | exact (hI.2.1 _ (by assumption)).1) (by first | assumption | exact hI.2.2.2.1 | exact hI.2.2.2.2 | (unfold vp_in; decide) | exact Or.inr (by assumption) | exact cof_mem hI | (intro a h; cases h; assumption) | exact (hI.2.1 _ (by assumption)).1) (by first | assumption | exact hI.2.2.2.1 | exact hI.2.2.2.2 | (unfold vp_in; decide) | exact Or.inr (by assumption) | exact cof_mem hI | (intro a h; cases h; assumption) | exact (hI.2.1 _ (by assumption)).1)) (cwV 2 hts gV_S_83 rfl rfl rfl (by decide +kernel) ⟨Nat.le_of_ble_eq_true rfl, Nat.le_of_ble_eq_true rfl⟩) h0 hw 0 rfl rfl rfl rfl hl.1 rfl (Nat.le_of_ble_eq_true rfl) d_S_certify_82 ⟨Nat.le_of_ble_eq_true rfl, Nat.le_of_ble_eq_true rfl⟩ (fun H locs hw => ?_)
        have hI : InvC (f_give (sN st q_63 (w7 p2 p3 p4 p5 p6 p7 p8)) p1 q_63) := inv_f_give hI (by assumption)
        refine lv_iload hx hb d_S_certify_85 (lv_at hl 0 rfl) ?_
        refine lv_if_eq (tgt := 94) hx hb d_S_certify_87 (by decide) (fun c_87 => ?_) (fun c_87 => ?_)
        · refine lv_iconst (v := 0) hx hb d_S_certify_94 (by decide) ?_
          exact vx_ret (z_iret (wf := fun u : CS => (wC ad G u ++ wr)) (u := (f_give (sN st q_63 (w7 p2 p3 p4 p5 p6 p7 p8)) p1 q_63)) hx hb hr hlocks h0 hw rfl ⟨q_63, hq_q_63, by rw [f_certify, hn_1, exo_none, if_neg c_17, if_neg c_29, hn_42, exo_none, e_51, oel_some]⟩ (Nat.le_of_ble_eq_true rfl) (Nat.le_of_ble_eq_true rfl) d_S_certify_95)
        · exact absurd (by decide) c_87
    · exact z_throw0 (cls := "java/lang/IllegalArgumentException") (ic := 56) hx hb hl9 hown (hg (.classLink R_S 54 "java/lang/IllegalArgumentException") (by decide +kernel)) (hg (.initialized "java/lang/IllegalArgumentException") (by decide +kernel)) (hat_S56 hts h0.2.1) (by decide +kernel) h0 hw (hl.1.trans hml.symm) d_S_certify_32 d_S_certify_35 d_S_certify_36 d_S_certify_39 hex (Nat.le_of_ble_eq_true rfl) (Nat.le_of_ble_eq_true rfl) (Nat.le_of_ble_eq_true rfl) (Nat.le_of_ble_eq_true rfl) hlocks (by intro q9; rw [f_certify, hn_1, exo_none, if_neg c_17, if_pos c_29]) (Nat.le_of_ble_eq_true rfl) (Nat.le_of_ble_eq_true rfl)
set_option maxHeartbeats 4000000 in
set_option maxRecDepth 100000 in
theorem c_S_finger (l : Launch) (hl9 : l.stackTraces = false) (G : gG) (ad : Nat → Nat) (st : CS) (wr : va_W) (sz : Nat) (p1 : Int32) (hI : InvC st) : vx_Met l y_S_finger w_S_finger { frames := 7, cells := 2, slots := 13, locals := 127 } (va_Pc [.ref (ad 0), .int p1] (z_pre G (wC ad G st ++ wr) sz)) (z_Qi G (wC ad G st ++ wr) sz (fun u : CS => (wC ad G u ++ wr)) (fun r u => ∃ q9, q9 ∉ st.2.2.2.1 ∧ f_finger st p1 q9 = .inr (r, u))) (z_X G (wC ad G st ++ wr) sz (fun E => ∀ q9, f_finger st p1 q9 = .inl E)) 2 13 (va_A (wC ad G st ++ wr) sz) := by
  refine vx_ofW (cc := b_S_finger) (maxL := 4) (ret := (some .int)) (by decide) rfl ?_
  intro p e s m args below meth c s₁ B hml hex hv
  obtain ⟨rfl, hsz, hP, hK, hD0, ham⟩ := hv
  subst hsz
  have hx := B.exec
  have hb := B.bytes
  have hr := B.returns
  have hts : ∀ w ∈ goT, w.before _ s = true := fun w h => atoms_spec (ws := w_S_finger) B.pre w (List.mem_cons_of_mem _ h)
  have hg : ∀ w, goB w = true → w.before _ s = true := fun w h => hts w (goI h)
  have hown : s.vm.findClass R_S = some m.cls := findClass_of_methodNamed B.named
  have hlocks := B.notSynchronized
  have h0 : z_st G (wC ad G st ++ wr) s := ⟨hK, ham⟩
  have hw : z_wl G (wC ad G st ++ wr) s (wC ad G st ++ wr) s.heap [] := z_0 hP hD0
  have hl := lv_entry ([.ref (ad 0), .int p1]) (n := 4) (Nat.le_of_ble_eq_true rfl)
  rw [lg_entry_eq]
  generalize (lg_sl ([.ref (ad 0), .int p1]) ++ List.replicate (4 - (lg_sl ([.ref (ad 0), .int p1])).length) Slot.unset).toArray = ls at hl ⊢
  have hl : lv_has ls 4 [(0, .ref (ad 0)), (1, .int p1)] := hl
  refine lv_aload_n hx hb d_S_finger_0 rfl (lv_at hl 0 rfl) ?_
  refine z_VXn (As := []) (P := fun E => (f_requireUp st) = some E) (N := (f_requireUp st) = none) ⟨hx, hb, hml, hown, hts⟩ (c_S_requireUp l hl9 G ad st wr _) (cwV 0 hts gV_S_108 rfl rfl rfl (by decide +kernel) ⟨Nat.le_of_ble_eq_true rfl, Nat.le_of_ble_eq_true rfl⟩) h0 hw 0 rfl rfl rfl rfl hl.1 rfl (Nat.le_of_ble_eq_true rfl) d_S_finger_1 ⟨Nat.le_of_ble_eq_true rfl, Nat.le_of_ble_eq_true rfl⟩ (fun E ce q9 H locs hE hw hce hcv hcl => z_out hex hlocks h0 hw hce hcv hcl (by intro q9; rw [f_finger, hE, exo_some]) (Nat.le_of_ble_eq_true rfl) (Nat.le_of_ble_eq_true rfl)) (fun H locs hn_1 hw => ?_)
  refine lv_aload_n hx hb d_S_finger_4 rfl (lv_at hl 0 rfl) ?_
  refine va_get (D := G.1) (ci := 2) (v := .int (st.1 6)) (C := R_S) (T := T_S) (N := 14) hx hb hts in_S hown h0.1 hw.1 0 rfl rfl 6 (by decide) (hg (.fieldLink R_S 37 "SecureEntry" "userState" "I") (by decide +kernel)) (fun _ h9 => h9) rfl d_S_finger_5 ?_
  refine lv_iconst (v := 1) hx hb d_S_finger_8 (by decide) ?_
  refine lv_icmp_eq (tgt := 20) hx hb d_S_finger_9 (by decide) (fun c_9 => ?_) (fun c_9 => ?_)
  · refine lv_iload_n hx hb d_S_finger_20 rfl (lv_at hl 1 rfl) ?_
    refine lv_iconst (v := 0) hx hb d_S_finger_21 (by decide) ?_
    refine lv_ldc hx hb hown (hg (.constant R_S 130 65535) (by decide +kernel)) d_S_finger_22 ?_
    refine z_Si0 (As := [.int p1, .int 0, .int 65535]) (v := (f_isWithin p1 0 65535)) ⟨hx, hb, hml, hown, hts⟩ (c_S_isWithin l G (wC ad G st ++ wr) _ p1 0 65535) (cwS 3 hts gS_S_69 rfl rfl rfl (by decide +kernel) ⟨Nat.le_of_ble_eq_true rfl, Nat.le_of_ble_eq_true rfl⟩) h0 hw rfl hl.1 rfl (Nat.le_of_ble_eq_true rfl) d_S_finger_24 ⟨Nat.le_of_ble_eq_true rfl, Nat.le_of_ble_eq_true rfl⟩ (fun H locs hw => ?_)
    refine lv_if_ne (tgt := 38) hx hb d_S_finger_27 (by decide) (fun c_27 => ?_) (fun c_27 => ?_)
    · refine lv_aload_n hx hb d_S_finger_38 rfl (lv_at hl 0 rfl) ?_
      refine lv_aload_n hx hb d_S_finger_39 rfl (lv_at hl 0 rfl) ?_
      refine va_get (D := G.1) (ci := 2) (v := .int (st.1 8)) (C := R_S) (T := T_S) (N := 14) hx hb hts in_S hown h0.1 hw.1 0 rfl rfl 8 (by decide) (hg (.fieldLink R_S 41 "SecureEntry" "outerToken" "I") (by decide +kernel)) (fun _ h9 => h9) rfl d_S_finger_40 ?_
      refine lv_iconst (v := 1) hx hb d_S_finger_43 (by decide) ?_
      refine z_Vq0 (As := [.int (st.1 8), .int 1]) (v := (f_certificateOf st (st.1 8) 1)) ⟨hx, hb, hml, hown, hts⟩ (c_S_certificateOf l G ad st wr _ (st.1 8) 1 (by first | assumption | exact hI.2.2.2.1 | exact hI.2.2.2.2 | (unfold vp_in; decide) | exact Or.inr (by assumption) | exact cof_mem hI | (intro a h; cases h; assumption) | exact (hI.2.1 _ (by assumption)).1) (by first | assumption | exact hI.2.2.2.1 | exact hI.2.2.2.2 | (unfold vp_in; decide) | exact Or.inr (by assumption) | exact cof_mem hI | (intro a h; cases h; assumption) | exact (hI.2.1 _ (by assumption)).1)) (cwV 2 hts gV_S_76 rfl rfl rfl (by decide +kernel) ⟨Nat.le_of_ble_eq_true rfl, Nat.le_of_ble_eq_true rfl⟩) h0 hw 0 rfl rfl rfl rfl hl.1 rfl (Nat.le_of_ble_eq_true rfl) d_S_finger_44 ⟨Nat.le_of_ble_eq_true rfl, Nat.le_of_ble_eq_true rfl⟩ (fun H locs hw => ?_)
      refine z_astore_n (r := (f_certificateOf st (st.1 8) 1)) (lv' := [(2, va_rf (f_certificateOf st (st.1 8) 1)), (0, .ref (ad 0)), (1, .int p1)]) hx hb d_S_finger_47 rfl hl (by decide) rfl (fun ls hl => ?_)
      refine lv_aload_n hx hb d_S_finger_48 rfl (lv_at hl 1 rfl) ?_
      refine lv_aload_n hx hb d_S_finger_49 rfl (lv_at hl 1 rfl) ?_
      refine va_get (D := G.1) (ci := 2) (v := .int (st.1 8)) (C := R_S) (T := T_S) (N := 14) hx hb hts in_S hown h0.1 hw.1 0 rfl rfl 8 (by decide) (hg (.fieldLink R_S 41 "SecureEntry" "outerToken" "I") (by decide +kernel)) (fun _ h9 => h9) rfl d_S_finger_50 ?_
      refine lv_iconst (v := 2) hx hb d_S_finger_53 (by decide) ?_
      refine z_Vq0 (As := [.int (st.1 8), .int 2]) (v := (f_certificateOf st (st.1 8) 2)) ⟨hx, hb, hml, hown, hts⟩ (c_S_certificateOf l G ad st wr _ (st.1 8) 2 (by first | assumption | exact hI.2.2.2.1 | exact hI.2.2.2.2 | (unfold vp_in; decide) | exact Or.inr (by assumption) | exact cof_mem hI | (intro a h; cases h; assumption) | exact (hI.2.1 _ (by assumption)).1) (by first | assumption | exact hI.2.2.2.1 | exact hI.2.2.2.2 | (unfold vp_in; decide) | exact Or.inr (by assumption) | exact cof_mem hI | (intro a h; cases h; assumption) | exact (hI.2.1 _ (by assumption)).1)) (cwV 2 hts gV_S_76 rfl rfl rfl (by decide +kernel) ⟨Nat.le_of_ble_eq_true rfl, Nat.le_of_ble_eq_true rfl⟩) h0 hw 0 rfl rfl rfl rfl hl.1 rfl (Nat.le_of_ble_eq_true rfl) d_S_finger_54 ⟨Nat.le_of_ble_eq_true rfl, Nat.le_of_ble_eq_true rfl⟩ (fun H locs hw => ?_)
      refine z_astore_n (r := (f_certificateOf st (st.1 8) 2)) (lv' := [(3, va_rf (f_certificateOf st (st.1 8) 2)), (2, va_rf (f_certificateOf st (st.1 8) 1)), (0, .ref (ad 0)), (1, .int p1)]) (i := 3) hx hb d_S_finger_57 rfl hl (by decide) (by simp [z_cat]) (fun ls hl => ?_)
      refine z_aload_n (r := (f_certificateOf st (st.1 8) 1)) hx hb d_S_finger_58 rfl (lv_at hl 1 rfl) ?_
      refine z_ifnull (r := (f_certificateOf st (st.1 8) 1)) (tgt := 107) hx hb d_S_finger_59 (by decide) (fun e_59 => ?_) (fun a_59 e_59 => ?_)
      · have hl : lv_has ls 4 [(3, va_rf (f_certificateOf st (st.1 8) 2)), (2, .null), (0, .ref (ad 0)), (1, .int p1)] := by rw [e_59] at hl; exact hl
        refine lv_aload_n hx hb d_S_finger_107 rfl (lv_at hl 2 rfl) ?_
        refine lv_iconst (v := 5) hx hb d_S_finger_108 (by decide) ?_
        refine z_Vv0 (As := [.int 5]) (ws1 := (wC ad G (f_turnAway st 5) ++ wr)) ⟨hx, hb, hml, hown, hts⟩ (c_S_turnAway l G ad st wr _ 5 (by first | assumption | exact hI.2.2.2.1 | exact hI.2.2.2.2 | (unfold vp_in; decide) | exact Or.inr (by assumption) | exact cof_mem hI | (intro a h; cases h; assumption) | exact (hI.2.1 _ (by assumption)).1)) (cwV 1 hts gV_S_127 rfl rfl rfl (by decide +kernel) ⟨Nat.le_of_ble_eq_true rfl, Nat.le_of_ble_eq_true rfl⟩) h0 hw 0 rfl rfl rfl rfl hl.1 rfl (Nat.le_of_ble_eq_true rfl) d_S_finger_109 ⟨Nat.le_of_ble_eq_true rfl, Nat.le_of_ble_eq_true rfl⟩ (fun H locs hw => ?_)
        have hI : InvC (f_turnAway st 5) := inv_f_turnAway hI
        refine lv_aload_n hx hb d_S_finger_112 rfl (lv_at hl 2 rfl) ?_
        refine va_get (D := G.1) (ci := 2) (v := .int ((f_turnAway st 5).1 6)) (C := R_S) (T := T_S) (N := 14) hx hb hts in_S hown h0.1 hw.1 0 rfl rfl 6 (by decide) (hg (.fieldLink R_S 37 "SecureEntry" "userState" "I") (by decide +kernel)) (fun _ h9 => h9) rfl d_S_finger_113 ?_
        exact vx_ret (z_iret (wf := fun u : CS => (wC ad G u ++ wr)) (u := (f_turnAway st 5)) hx hb hr hlocks h0 hw rfl (let ⟨q9, hq9⟩ := z_fresh st.2.2.2.1; ⟨q9, hq9, by rw [f_finger, hn_1, exo_none, if_pos c_9, if_neg c_27, e_59, oel_none]⟩) (Nat.le_of_ble_eq_true rfl) (Nat.le_of_ble_eq_true rfl) d_S_finger_116)
      · have hl : lv_has ls 4 [(3, va_rf (f_certificateOf st (st.1 8) 2)), (2, .ref a_59), (0, .ref (ad 0)), (1, .int p1)] := by rw [e_59] at hl; exact hl
        have hm_a_59 : a_59 ∈ st.2.2.2.1 := cof_mem hI _ e_59
        refine z_aload_n (r := (f_certificateOf st (st.1 8) 2)) hx hb d_S_finger_62 rfl (lv_at hl 0 rfl) ?_
        refine z_ifnull (r := (f_certificateOf st (st.1 8) 2)) (tgt := 107) hx hb d_S_finger_63 (by decide) (fun e_63 => ?_) (fun a_63 e_63 => ?_)
        · have hl : lv_has ls 4 [(3, .null), (2, .ref a_59), (0, .ref (ad 0)), (1, .int p1)] := by rw [e_63] at hl; exact hl
          refine lv_aload_n hx hb d_S_finger_107 rfl (lv_at hl 2 rfl) ?_
          refine lv_iconst (v := 5) hx hb d_S_finger_108 (by decide) ?_
          refine z_Vv0 (As := [.int 5]) (ws1 := (wC ad G (f_turnAway st 5) ++ wr)) ⟨hx, hb, hml, hown, hts⟩ (c_S_turnAway l G ad st wr _ 5 (by first | assumption | exact hI.2.2.2.1 | exact hI.2.2.2.2 | (unfold vp_in; decide) | exact Or.inr (by assumption) | exact cof_mem hI | (intro a h; cases h; assumption) | exact (hI.2.1 _ (by assumption)).1)) (cwV 1 hts gV_S_127 rfl rfl rfl (by decide +kernel) ⟨Nat.le_of_ble_eq_true rfl, Nat.le_of_ble_eq_true rfl⟩) h0 hw 0 rfl rfl rfl rfl hl.1 rfl (Nat.le_of_ble_eq_true rfl) d_S_finger_109 ⟨Nat.le_of_ble_eq_true rfl, Nat.le_of_ble_eq_true rfl⟩ (fun H locs hw => ?_)
          have hI : InvC (f_turnAway st 5) := inv_f_turnAway hI
          refine lv_aload_n hx hb d_S_finger_112 rfl (lv_at hl 2 rfl) ?_
          refine va_get (D := G.1) (ci := 2) (v := .int ((f_turnAway st 5).1 6)) (C := R_S) (T := T_S) (N := 14) hx hb hts in_S hown h0.1 hw.1 0 rfl rfl 6 (by decide) (hg (.fieldLink R_S 37 "SecureEntry" "userState" "I") (by decide +kernel)) (fun _ h9 => h9) rfl d_S_finger_113 ?_
          exact vx_ret (z_iret (wf := fun u : CS => (wC ad G u ++ wr)) (u := (f_turnAway st 5)) hx hb hr hlocks h0 hw rfl (let ⟨q9, hq9⟩ := z_fresh st.2.2.2.1; ⟨q9, hq9, by rw [f_finger, hn_1, exo_none, if_pos c_9, if_neg c_27, e_59, oel_some, e_63, oel_none]⟩) (Nat.le_of_ble_eq_true rfl) (Nat.le_of_ble_eq_true rfl) d_S_finger_116)
        · have hl : lv_has ls 4 [(3, .ref a_63), (2, .ref a_59), (0, .ref (ad 0)), (1, .int p1)] := by rw [e_63] at hl; exact hl
          have hm_a_63 : a_63 ∈ st.2.2.2.1 := cof_mem hI _ e_63
          have hp8 : vp_in (st.1 8) 6 := cof_tok hI e_59
          refine lv_aload_n hx hb d_S_finger_66 rfl (lv_at hl 2 rfl) ?_
          refine lv_iload_n hx hb d_S_finger_67 rfl (lv_at hl 3 rfl) ?_
          refine lv_aload_n hx hb d_S_finger_68 rfl (lv_at hl 0 rfl) ?_
          obtain ⟨k_69, hk_69⟩ := z_pool (ad := ad) (G := G) (wr := wr) (st := st) hm_a_63
          refine va_get (D := G.1) (ci := 0) (v := .int (st.2.2.2.2 a_63 3)) (C := R_C) (T := T_C) (N := 7) hx hb hts in_C hown h0.1 hw.1 k_69 hk_69 rfl 3 (by decide) (hg (.fieldLink R_S 131 "SecureEntry$Certificate" "value" "I") (by decide +kernel)) (fun _ h9 => h9) rfl d_S_finger_69 ?_
          refine z_Vi0 (As := [.int p1, .int (st.2.2.2.2 a_63 3)]) (v := (f_matches st p1 (st.2.2.2.2 a_63 3))) ⟨hx, hb, hml, hown, hts⟩ (c_S_matches l G ad st wr _ p1 (st.2.2.2.2 a_63 3)) (cwV 2 hts gV_S_134 rfl rfl rfl (by decide +kernel) ⟨Nat.le_of_ble_eq_true rfl, Nat.le_of_ble_eq_true rfl⟩) h0 hw 0 rfl rfl rfl rfl hl.1 rfl (Nat.le_of_ble_eq_true rfl) d_S_finger_72 ⟨Nat.le_of_ble_eq_true rfl, Nat.le_of_ble_eq_true rfl⟩ (fun H locs hw => ?_)
          refine lv_if_eq (tgt := 107) hx hb d_S_finger_75 (by decide) (fun c_75 => ?_) (fun c_75 => ?_)
          · refine lv_aload_n hx hb d_S_finger_107 rfl (lv_at hl 2 rfl) ?_
            refine lv_iconst (v := 5) hx hb d_S_finger_108 (by decide) ?_
            refine z_Vv0 (As := [.int 5]) (ws1 := (wC ad G (f_turnAway st 5) ++ wr)) ⟨hx, hb, hml, hown, hts⟩ (c_S_turnAway l G ad st wr _ 5 (by first | assumption | exact hI.2.2.2.1 | exact hI.2.2.2.2 | (unfold vp_in; decide) | exact Or.inr (by assumption) | exact cof_mem hI | (intro a h; cases h; assumption) | exact (hI.2.1 _ (by assumption)).1)) (cwV 1 hts gV_S_127 rfl rfl rfl (by decide +kernel) ⟨Nat.le_of_ble_eq_true rfl, Nat.le_of_ble_eq_true rfl⟩) h0 hw 0 rfl rfl rfl rfl hl.1 rfl (Nat.le_of_ble_eq_true rfl) d_S_finger_109 ⟨Nat.le_of_ble_eq_true rfl, Nat.le_of_ble_eq_true rfl⟩ (fun H locs hw => ?_)
            have hI : InvC (f_turnAway st 5) := inv_f_turnAway hI
            refine lv_aload_n hx hb d_S_finger_112 rfl (lv_at hl 2 rfl) ?_
            refine va_get (D := G.1) (ci := 2) (v := .int ((f_turnAway st 5).1 6)) (C := R_S) (T := T_S) (N := 14) hx hb hts in_S hown h0.1 hw.1 0 rfl rfl 6 (by decide) (hg (.fieldLink R_S 37 "SecureEntry" "userState" "I") (by decide +kernel)) (fun _ h9 => h9) rfl d_S_finger_113 ?_
            exact vx_ret (z_iret (wf := fun u : CS => (wC ad G u ++ wr)) (u := (f_turnAway st 5)) hx hb hr hlocks h0 hw rfl (let ⟨q9, hq9⟩ := z_fresh st.2.2.2.1; ⟨q9, hq9, by rw [f_finger, hn_1, exo_none, if_pos c_9, if_neg c_27, e_59, oel_some, e_63, oel_some, if_pos c_75]⟩) (Nat.le_of_ble_eq_true rfl) (Nat.le_of_ble_eq_true rfl) d_S_finger_116)
          · refine lv_aload_n hx hb d_S_finger_78 rfl (lv_at hl 2 rfl) ?_
            refine lv_aload_n hx hb d_S_finger_79 rfl (lv_at hl 2 rfl) ?_
            refine va_get (D := G.1) (ci := 2) (v := .int (st.1 8)) (C := R_S) (T := T_S) (N := 14) hx hb hts in_S hown h0.1 hw.1 0 rfl rfl 8 (by decide) (hg (.fieldLink R_S 41 "SecureEntry" "outerToken" "I") (by decide +kernel)) (fun _ h9 => h9) rfl d_S_finger_80 ?_
            refine lv_aload_n hx hb d_S_finger_83 rfl (lv_at hl 2 rfl) ?_
            refine lv_aload_n hx hb d_S_finger_84 rfl (lv_at hl 1 rfl) ?_
            refine z_Vq (As := [.ref a_59]) ⟨hx, hb, hml, hown, hts⟩ (c_S_authorisationBy l G ad st wr _ a_59 (by first | assumption | exact hI.2.2.2.1 | exact hI.2.2.2.2 | (unfold vp_in; decide) | exact Or.inr (by assumption) | exact cof_mem hI | (intro a h; cases h; assumption) | exact (hI.2.1 _ (by assumption)).1)) (cwV 1 hts gV_S_138 rfl rfl rfl (by decide +kernel) ⟨Nat.le_of_ble_eq_true rfl, Nat.le_of_ble_eq_true rfl⟩) h0 hw 0 rfl rfl rfl rfl hl.1 rfl (Nat.le_of_ble_eq_true rfl) d_S_finger_85 ⟨Nat.le_of_ble_eq_true rfl, Nat.le_of_ble_eq_true rfl⟩ (fun r_85 q_85 H locs hp hw => ?_)
            obtain ⟨rfl, hq_q_85⟩ := hp
            have hw : z_wl G (wC ad G st ++ wr) s (wC ad G (sN st q_85 (f_authorisationBy st a_59)) ++ wr) H locs := hw
            have hm_q_85 : q_85 ∈ (sN st q_85 (f_authorisationBy st a_59)).2.2.2.1 := z_inN
            have hI : InvC (sN st q_85 (f_authorisationBy st a_59)) := inv_sN hI (show vp_in 6 7 by unfold vp_in; decide) (show vp_in 3 4 by unfold vp_in; decide)
            refine z_Vv0 (As := [.int (st.1 8), .ref q_85]) (ws1 := (wC ad G (f_give (sN st q_85 (f_authorisationBy st a_59)) (st.1 8) q_85) ++ wr)) ⟨hx, hb, hml, hown, hts⟩ (c_S_give l G ad (sN st q_85 (f_authorisationBy st a_59)) wr _ (st.1 8) q_85 (by first | assumption | exact hI.2.2.2.1 | exact hI.2.2.2.2 | (unfold vp_in; decide) | exact Or.inr (by assumption) | exact cof_mem hI | (intro a h; cases h; assumption) | exact (hI.2.1 _ (by assumption)).1) (by first | assumption | exact hI.2.2.2.1 | exact hI.2.2.2.2 | (unfold vp_in; decide) | exact Or.inr (by assumption) | exact cof_mem hI | (intro a h; cases h; assumption) | exact (hI.2.1 _ (by assumption)).1) (by first | assumption | exact hI.2.2.2.1 | exact hI.2.2.2.2 | (unfold vp_in; decide) | exact Or.inr (by assumption) | exact cof_mem hI | (intro a h; cases h; assumption) | exact (hI.2.1 _ (by assumption)).1)) (cwV 2 hts gV_S_83 rfl rfl rfl (by decide +kernel) ⟨Nat.le_of_ble_eq_true rfl, Nat.le_of_ble_eq_true rfl⟩) h0 hw 0 rfl rfl rfl rfl hl.1 rfl (Nat.le_of_ble_eq_true rfl) d_S_finger_88 ⟨Nat.le_of_ble_eq_true rfl, Nat.le_of_ble_eq_true rfl⟩ (fun H locs hw => ?_)
            have hI : InvC (f_give (sN st q_85 (f_authorisationBy st a_59)) (st.1 8) q_85) := inv_f_give hI (by assumption)
            refine lv_aload_n hx hb d_S_finger_91 rfl (lv_at hl 2 rfl) ?_
            refine lv_aload_n hx hb d_S_finger_92 rfl (lv_at hl 2 rfl) ?_
            refine va_get (D := G.1) (ci := 2) (v := .int ((f_give (sN st q_85 (f_authorisationBy st a_59)) (st.1 8) q_85).1 8)) (C := R_S) (T := T_S) (N := 14) hx hb hts in_S hown h0.1 hw.1 0 rfl rfl 8 (by decide) (hg (.fieldLink R_S 41 "SecureEntry" "outerToken" "I") (by decide +kernel)) (fun _ h9 => h9) rfl d_S_finger_93 ?_
            refine lv_iconst (v := 4) hx hb d_S_finger_96 (by decide) ?_
            refine z_Vv0 (As := [.int ((f_give (sN st q_85 (f_authorisationBy st a_59)) (st.1 8) q_85).1 8), .int 4]) (ws1 := (wC ad G (f_writeAbout (f_give (sN st q_85 (f_authorisationBy st a_59)) (st.1 8) q_85) ((f_give (sN st q_85 (f_authorisationBy st a_59)) (st.1 8) q_85).1 8) 4) ++ wr)) ⟨hx, hb, hml, hown, hts⟩ (c_S_writeAbout l G ad (f_give (sN st q_85 (f_authorisationBy st a_59)) (st.1 8) q_85) wr _ ((f_give (sN st q_85 (f_authorisationBy st a_59)) (st.1 8) q_85).1 8) 4 (by first | assumption | exact hI.2.2.2.1 | exact hI.2.2.2.2 | (unfold vp_in; decide) | exact Or.inr (by assumption) | exact cof_mem hI | (intro a h; cases h; assumption) | exact (hI.2.1 _ (by assumption)).1) (by first | assumption | exact hI.2.2.2.1 | exact hI.2.2.2.2 | (unfold vp_in; decide) | exact Or.inr (by assumption) | exact cof_mem hI | (intro a h; cases h; assumption) | exact (hI.2.1 _ (by assumption)).1)) (cwV 2 hts gV_S_114 rfl rfl rfl (by decide +kernel) ⟨Nat.le_of_ble_eq_true rfl, Nat.le_of_ble_eq_true rfl⟩) h0 hw 0 rfl rfl rfl rfl hl.1 rfl (Nat.le_of_ble_eq_true rfl) d_S_finger_97 ⟨Nat.le_of_ble_eq_true rfl, Nat.le_of_ble_eq_true rfl⟩ (fun H locs hw => ?_)
            have hI : InvC (f_writeAbout (f_give (sN st q_85 (f_authorisationBy st a_59)) (st.1 8) q_85) ((f_give (sN st q_85 (f_authorisationBy st a_59)) (st.1 8) q_85).1 8) 4) := inv_f_writeAbout hI
            refine lv_aload_n hx hb d_S_finger_100 rfl (lv_at hl 2 rfl) ?_
            refine z_Vv0 (As := []) (ws1 := (wC ad G (f_allowEntry (f_writeAbout (f_give (sN st q_85 (f_authorisationBy st a_59)) (st.1 8) q_85) ((f_give (sN st q_85 (f_authorisationBy st a_59)) (st.1 8) q_85).1 8) 4)) ++ wr)) ⟨hx, hb, hml, hown, hts⟩ (c_S_allowEntry l G ad (f_writeAbout (f_give (sN st q_85 (f_authorisationBy st a_59)) (st.1 8) q_85) ((f_give (sN st q_85 (f_authorisationBy st a_59)) (st.1 8) q_85).1 8) 4) wr _  (by first | assumption | exact hI.2.2.2.1 | exact hI.2.2.2.2 | (unfold vp_in; decide) | exact Or.inr (by assumption) | exact cof_mem hI | (intro a h; cases h; assumption) | exact (hI.2.1 _ (by assumption)).1)) (cwV 0 hts gV_S_121 rfl rfl rfl (by decide +kernel) ⟨Nat.le_of_ble_eq_true rfl, Nat.le_of_ble_eq_true rfl⟩) h0 hw 0 rfl rfl rfl rfl hl.1 rfl (Nat.le_of_ble_eq_true rfl) d_S_finger_101 ⟨Nat.le_of_ble_eq_true rfl, Nat.le_of_ble_eq_true rfl⟩ (fun H locs hw => ?_)
            have hI : InvC (f_allowEntry (f_writeAbout (f_give (sN st q_85 (f_authorisationBy st a_59)) (st.1 8) q_85) ((f_give (sN st q_85 (f_authorisationBy st a_59)) (st.1 8) q_85).1 8) 4)) := inv_f_allowEntry hI
            refine lv_goto (tgt := 112) hx hb d_S_finger_104 (by decide) ?_
            refine lv_aload_n hx hb d_S_finger_112 rfl (lv_at hl 2 rfl) ?_
            refine va_get (D := G.1) (ci := 2) (v := .int ((f_allowEntry (f_writeAbout (f_give (sN st q_85 (f_authorisationBy st a_59)) (st.1 8) q_85) ((f_give (sN st q_85 (f_authorisationBy st a_59)) (st.1 8) q_85).1 8) 4)).1 6)) (C := R_S) (T := T_S) (N := 14) hx hb hts in_S hown h0.1 hw.1 0 rfl rfl 6 (by decide) (hg (.fieldLink R_S 37 "SecureEntry" "userState" "I") (by decide +kernel)) (fun _ h9 => h9) rfl d_S_finger_113 ?_
            exact vx_ret (z_iret (wf := fun u : CS => (wC ad G u ++ wr)) (u := (f_allowEntry (f_writeAbout (f_give (sN st q_85 (f_authorisationBy st a_59)) (st.1 8) q_85) ((f_give (sN st q_85 (f_authorisationBy st a_59)) (st.1 8) q_85).1 8) 4))) hx hb hr hlocks h0 hw rfl ⟨q_85, hq_q_85, by rw [f_finger, hn_1, exo_none, if_pos c_9, if_neg c_27, e_59, oel_some, e_63, oel_some, if_neg c_75]⟩ (Nat.le_of_ble_eq_true rfl) (Nat.le_of_ble_eq_true rfl) d_S_finger_116)
    · exact z_throw0 (cls := "java/lang/IllegalArgumentException") (ic := 56) hx hb hl9 hown (hg (.classLink R_S 54 "java/lang/IllegalArgumentException") (by decide +kernel)) (hg (.initialized "java/lang/IllegalArgumentException") (by decide +kernel)) (hat_S56 hts h0.2.1) (by decide +kernel) h0 hw (hl.1.trans hml.symm) d_S_finger_30 d_S_finger_33 d_S_finger_34 d_S_finger_37 hex (Nat.le_of_ble_eq_true rfl) (Nat.le_of_ble_eq_true rfl) (Nat.le_of_ble_eq_true rfl) (Nat.le_of_ble_eq_true rfl) hlocks (by intro q9; rw [f_finger, hn_1, exo_none, if_pos c_9, if_pos c_27]) (Nat.le_of_ble_eq_true rfl) (Nat.le_of_ble_eq_true rfl)
  · exact z_throw0 (cls := "java/lang/IllegalStateException") (ic := 93) hx hb hl9 hown (hg (.classLink R_S 91 "java/lang/IllegalStateException") (by decide +kernel)) (hg (.initialized "java/lang/IllegalStateException") (by decide +kernel)) (hat_S93 hts h0.2.1) (by decide +kernel) h0 hw (hl.1.trans hml.symm) d_S_finger_12 d_S_finger_15 d_S_finger_16 d_S_finger_19 hex (Nat.le_of_ble_eq_true rfl) (Nat.le_of_ble_eq_true rfl) (Nat.le_of_ble_eq_true rfl) (Nat.le_of_ble_eq_true rfl) hlocks (by intro q9; rw [f_finger, hn_1, exo_none, if_neg c_9]) (Nat.le_of_ble_eq_true rfl) (Nat.le_of_ble_eq_true rfl)
end CON
