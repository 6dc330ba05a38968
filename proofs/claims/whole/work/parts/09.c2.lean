section CON
set_option maxHeartbeats 4000000 in
set_option maxRecDepth 100000 in
theorem c_I_bitCount (l : Launch) (G : gG) (ws : va_W) (sz : Nat) (p1 : Int32)  : Met l y_I_bitCount w_I_bitCount { frames := 0, cells := 0, slots := 0, locals := 0 } (va_Pc [.int p1] (z_pre G ws sz)) (z_Qi0 G ws sz ws (f_bitCount p1)) 0 0 (va_A ws sz) := by
  refine Met.ofW (cc := b_I_bitCount) (maxL := 1) (ret := (some .int)) (by decide) rfl ?_
  intro p e s m args below meth c s₁ B hml hv
  obtain ⟨rfl, hsz, hP, hK, hD0, ham⟩ := hv
  subst hsz
  have hx := B.exec
  have hb := B.bytes
  have hr := B.returns
  have hts : ∀ w ∈ goT, w.before _ s = true := fun w h => atoms_spec (ws := w_I_bitCount) B.pre w (List.mem_cons_of_mem _ h)
  have hg : ∀ w, goB w = true → w.before _ s = true := fun w h => hts w (goI h)
  have hown : s.vm.findClass R_I = some m.cls := findClass_of_methodNamed B.named
  have hlocks := B.notSynchronized
  have h0 : z_st G ws s := ⟨hK, ham⟩
  have hw : z_wl G ws s ws s.heap [] := z_0 hP hD0
  have hl := lv_entry ([.int p1]) (n := 1) (Nat.le_of_ble_eq_true rfl)
  rw [lg_entry_eq]
  generalize (lg_sl ([.int p1]) ++ List.replicate (1 - (lg_sl ([.int p1])).length) Slot.unset).toArray = ls at hl ⊢
  have hl : lv_has ls 1 [(0, .int p1)] := hl
  refine lv_iload_n hx hb d_I_bitCount_0 rfl (lv_at hl 0 rfl) ?_
  refine lv_iload_n hx hb d_I_bitCount_1 rfl (lv_at hl 0 rfl) ?_
  refine lv_iconst (v := 1) hx hb d_I_bitCount_2 (by decide) ?_
  refine lv_iushr hx hb d_I_bitCount_3 rfl ?_
  refine lv_ldcw hx hb hown (hg (.constant R_I 265 1431655765) (by decide +kernel)) d_I_bitCount_4 ?_
  refine lv_iand hx hb d_I_bitCount_7 ?_
  refine lv_isub hx hb d_I_bitCount_8 ?_
  refine lv_istore_n (lv' := [(0, .int (p1 - ((p1.toUInt32 >>> ((1 : Int32).toUInt32 &&& Int32.toUInt32 31)).toInt32 &&& 1431655765)))]) hx hb d_I_bitCount_9 rfl hl (by decide) rfl (fun ls hl => ?_)
  refine lv_iload_n hx hb d_I_bitCount_10 rfl (lv_at hl 0 rfl) ?_
  refine lv_ldcw hx hb hown (hg (.constant R_I 266 858993459) (by decide +kernel)) d_I_bitCount_11 ?_
  refine lv_iand hx hb d_I_bitCount_14 ?_
  refine lv_iload_n hx hb d_I_bitCount_15 rfl (lv_at hl 0 rfl) ?_
  refine lv_iconst (v := 2) hx hb d_I_bitCount_16 (by decide) ?_
  refine lv_iushr hx hb d_I_bitCount_17 rfl ?_
  refine lv_ldcw hx hb hown (hg (.constant R_I 266 858993459) (by decide +kernel)) d_I_bitCount_18 ?_
  refine lv_iand hx hb d_I_bitCount_21 ?_
  refine lv_iadd hx hb d_I_bitCount_22 ?_
  refine lv_istore_n (lv' := [(0, .int (((p1 - ((p1.toUInt32 >>> ((1 : Int32).toUInt32 &&& Int32.toUInt32 31)).toInt32 &&& 1431655765)) &&& 858993459) + (((p1 - ((p1.toUInt32 >>> ((1 : Int32).toUInt32 &&& Int32.toUInt32 31)).toInt32 &&& 1431655765)).toUInt32 >>> ((2 : Int32).toUInt32 &&& Int32.toUInt32 31)).toInt32 &&& 858993459)))]) hx hb d_I_bitCount_23 rfl hl (by decide) rfl (fun ls hl => ?_)
  refine lv_iload_n hx hb d_I_bitCount_24 rfl (lv_at hl 0 rfl) ?_
  refine lv_iload_n hx hb d_I_bitCount_25 rfl (lv_at hl 0 rfl) ?_
  refine lv_iconst (v := 4) hx hb d_I_bitCount_26 (by decide) ?_
  refine lv_iushr hx hb d_I_bitCount_27 rfl ?_
  refine lv_iadd hx hb d_I_bitCount_28 ?_
  refine lv_ldcw hx hb hown (hg (.constant R_I 267 252645135) (by decide +kernel)) d_I_bitCount_29 ?_
  refine lv_iand hx hb d_I_bitCount_32 ?_
  refine lv_istore_n (lv' := [(0, .int (((((p1 - ((p1.toUInt32 >>> ((1 : Int32).toUInt32 &&& Int32.toUInt32 31)).toInt32 &&& 1431655765)) &&& 858993459) + (((p1 - ((p1.toUInt32 >>> ((1 : Int32).toUInt32 &&& Int32.toUInt32 31)).toInt32 &&& 1431655765)).toUInt32 >>> ((2 : Int32).toUInt32 &&& Int32.toUInt32 31)).toInt32 &&& 858993459)) + ((((p1 - ((p1.toUInt32 >>> ((1 : Int32).toUInt32 &&& Int32.toUInt32 31)).toInt32 &&& 1431655765)) &&& 858993459) + (((p1 - ((p1.toUInt32 >>> ((1 : Int32).toUInt32 &&& Int32.toUInt32 31)).toInt32 &&& 1431655765)).toUInt32 >>> ((2 : Int32).toUInt32 &&& Int32.toUInt32 31)).toInt32 &&& 858993459)).toUInt32 >>> ((4 : Int32).toUInt32 &&& Int32.toUInt32 31)).toInt32) &&& 252645135))]) hx hb d_I_bitCount_33 rfl hl (by decide) rfl (fun ls hl => ?_)
  refine lv_iload_n hx hb d_I_bitCount_34 rfl (lv_at hl 0 rfl) ?_
  refine lv_iload_n hx hb d_I_bitCount_35 rfl (lv_at hl 0 rfl) ?_
  refine lv_bipush (v := 8) hx hb d_I_bitCount_36 (by decide) ?_
  refine lv_iushr hx hb d_I_bitCount_38 rfl ?_
  refine lv_iadd hx hb d_I_bitCount_39 ?_
  refine lv_istore_n (lv' := [(0, .int ((((((p1 - ((p1.toUInt32 >>> ((1 : Int32).toUInt32 &&& Int32.toUInt32 31)).toInt32 &&& 1431655765)) &&& 858993459) + (((p1 - ((p1.toUInt32 >>> ((1 : Int32).toUInt32 &&& Int32.toUInt32 31)).toInt32 &&& 1431655765)).toUInt32 >>> ((2 : Int32).toUInt32 &&& Int32.toUInt32 31)).toInt32 &&& 858993459)) + ((((p1 - ((p1.toUInt32 >>> ((1 : Int32).toUInt32 &&& Int32.toUInt32 31)).toInt32 &&& 1431655765)) &&& 858993459) + (((p1 - ((p1.toUInt32 >>> ((1 : Int32).toUInt32 &&& Int32.toUInt32 31)).toInt32 &&& 1431655765)).toUInt32 >>> ((2 : Int32).toUInt32 &&& Int32.toUInt32 31)).toInt32 &&& 858993459)).toUInt32 >>> ((4 : Int32).toUInt32 &&& Int32.toUInt32 31)).toInt32) &&& 252645135) + ((((((p1 - ((p1.toUInt32 >>> ((1 : Int32).toUInt32 &&& Int32.toUInt32 31)).toInt32 &&& 1431655765)) &&& 858993459) + (((p1 - ((p1.toUInt32 >>> ((1 : Int32).toUInt32 &&& Int32.toUInt32 31)).toInt32 &&& 1431655765)).toUInt32 >>> ((2 : Int32).toUInt32 &&& Int32.toUInt32 31)).toInt32 &&& 858993459)) + ((((p1 - ((p1.toUInt32 >>> ((1 : Int32).toUInt32 &&& Int32.toUInt32 31)).toInt32 &&& 1431655765)) &&& 858993459) + (((p1 - ((p1.toUInt32 >>> ((1 : Int32).toUInt32 &&& Int32.toUInt32 31)).toInt32 &&& 1431655765)).toUInt32 >>> ((2 : Int32).toUInt32 &&& Int32.toUInt32 31)).toInt32 &&& 858993459)).toUInt32 >>> ((4 : Int32).toUInt32 &&& Int32.toUInt32 31)).toInt32) &&& 252645135).toUInt32 >>> ((8 : Int32).toUInt32 &&& Int32.toUInt32 31)).toInt32))]) hx hb d_I_bitCount_40 rfl hl (by decide) rfl (fun ls hl => ?_)
  refine lv_iload_n hx hb d_I_bitCount_41 rfl (lv_at hl 0 rfl) ?_
  refine lv_iload_n hx hb d_I_bitCount_42 rfl (lv_at hl 0 rfl) ?_
  refine lv_bipush (v := 16) hx hb d_I_bitCount_43 (by decide) ?_
  refine lv_iushr hx hb d_I_bitCount_45 rfl ?_
  refine lv_iadd hx hb d_I_bitCount_46 ?_
  refine lv_istore_n (lv' := [(0, .int (((((((p1 - ((p1.toUInt32 >>> ((1 : Int32).toUInt32 &&& Int32.toUInt32 31)).toInt32 &&& 1431655765)) &&& 858993459) + (((p1 - ((p1.toUInt32 >>> ((1 : Int32).toUInt32 &&& Int32.toUInt32 31)).toInt32 &&& 1431655765)).toUInt32 >>> ((2 : Int32).toUInt32 &&& Int32.toUInt32 31)).toInt32 &&& 858993459)) + ((((p1 - ((p1.toUInt32 >>> ((1 : Int32).toUInt32 &&& Int32.toUInt32 31)).toInt32 &&& 1431655765)) &&& 858993459) + (((p1 - ((p1.toUInt32 >>> ((1 : Int32).toUInt32 &&& Int32.toUInt32 31)).toInt32 &&& 1431655765)).toUInt32 >>> ((2 : Int32).toUInt32 &&& Int32.toUInt32 31)).toInt32 &&& 858993459)).toUInt32 >>> ((4 : Int32).toUInt32 &&& Int32.toUInt32 31)).toInt32) &&& 252645135) + ((((((p1 - ((p1.toUInt32 >>> ((1 : Int32).toUInt32 &&& Int32.toUInt32 31)).toInt32 &&& 1431655765)) &&& 858993459) + (((p1 - ((p1.toUInt32 >>> ((1 : Int32).toUInt32 &&& Int32.toUInt32 31)).toInt32 &&& 1431655765)).toUInt32 >>> ((2 : Int32).toUInt32 &&& Int32.toUInt32 31)).toInt32 &&& 858993459)) + ((((p1 - ((p1.toUInt32 >>> ((1 : Int32).toUInt32 &&& Int32.toUInt32 31)).toInt32 &&& 1431655765)) &&& 858993459) + (((p1 - ((p1.toUInt32 >>> ((1 : Int32).toUInt32 &&& Int32.toUInt32 31)).toInt32 &&& 1431655765)).toUInt32 >>> ((2 : Int32).toUInt32 &&& Int32.toUInt32 31)).toInt32 &&& 858993459)).toUInt32 >>> ((4 : Int32).toUInt32 &&& Int32.toUInt32 31)).toInt32) &&& 252645135).toUInt32 >>> ((8 : Int32).toUInt32 &&& Int32.toUInt32 31)).toInt32) + (((((((p1 - ((p1.toUInt32 >>> ((1 : Int32).toUInt32 &&& Int32.toUInt32 31)).toInt32 &&& 1431655765)) &&& 858993459) + (((p1 - ((p1.toUInt32 >>> ((1 : Int32).toUInt32 &&& Int32.toUInt32 31)).toInt32 &&& 1431655765)).toUInt32 >>> ((2 : Int32).toUInt32 &&& Int32.toUInt32 31)).toInt32 &&& 858993459)) + ((((p1 - ((p1.toUInt32 >>> ((1 : Int32).toUInt32 &&& Int32.toUInt32 31)).toInt32 &&& 1431655765)) &&& 858993459) + (((p1 - ((p1.toUInt32 >>> ((1 : Int32).toUInt32 &&& Int32.toUInt32 31)).toInt32 &&& 1431655765)).toUInt32 >>> ((2 : Int32).toUInt32 &&& Int32.toUInt32 31)).toInt32 &&& 858993459)).toUInt32 >>> ((4 : Int32).toUInt32 &&& Int32.toUInt32 31)).toInt32) &&& 252645135) + ((((((p1 - ((p1.toUInt32 >>> ((1 : Int32).toUInt32 &&& Int32.toUInt32 31)).toInt32 &&& 1431655765)) &&& 858993459) + (((p1 - ((p1.toUInt32 >>> ((1 : Int32).toUInt32 &&& Int32.toUInt32 31)).toInt32 &&& 1431655765)).toUInt32 >>> ((2 : Int32).toUInt32 &&& Int32.toUInt32 31)).toInt32 &&& 858993459)) + ((((p1 - ((p1.toUInt32 >>> ((1 : Int32).toUInt32 &&& Int32.toUInt32 31)).toInt32 &&& 1431655765)) &&& 858993459) + (((p1 - ((p1.toUInt32 >>> ((1 : Int32).toUInt32 &&& Int32.toUInt32 31)).toInt32 &&& 1431655765)).toUInt32 >>> ((2 : Int32).toUInt32 &&& Int32.toUInt32 31)).toInt32 &&& 858993459)).toUInt32 >>> ((4 : Int32).toUInt32 &&& Int32.toUInt32 31)).toInt32) &&& 252645135).toUInt32 >>> ((8 : Int32).toUInt32 &&& Int32.toUInt32 31)).toInt32).toUInt32 >>> ((16 : Int32).toUInt32 &&& Int32.toUInt32 31)).toInt32))]) hx hb d_I_bitCount_47 rfl hl (by decide) rfl (fun ls hl => ?_)
  refine lv_iload_n hx hb d_I_bitCount_48 rfl (lv_at hl 0 rfl) ?_
  refine lv_bipush (v := 63) hx hb d_I_bitCount_49 (by decide) ?_
  refine lv_iand hx hb d_I_bitCount_51 ?_
  exact z_iret (wf := fun _ : Unit => ws) (u := ()) hx hb hr hlocks h0 hw rfl (by rw [f_bitCount]) (Nat.le_of_ble_eq_true rfl) (Nat.le_of_ble_eq_true rfl) d_I_bitCount_52
set_option maxHeartbeats 4000000 in
set_option maxRecDepth 100000 in
theorem c_S_matches (l : Launch) (G : gG) (ad : Nat → Nat) (st : CS) (wr : va_W) (sz : Nat) (p1 : Int32) (p2 : Int32)  : Met l y_S_matches w_S_matches { frames := 1, cells := 0, slots := 0, locals := 20 } (va_Pc [.ref (ad 0), .int p1, .int p2] (z_pre G (wC ad G st ++ wr) sz)) (z_Qi0 G (wC ad G st ++ wr) sz (wC ad G st ++ wr) (f_matches st p1 p2)) 0 0 (va_A (wC ad G st ++ wr) sz) := by
  refine Met.ofW (cc := b_S_matches) (maxL := 3) (ret := (some .boolean)) (by decide) rfl ?_
  intro p e s m args below meth c s₁ B hml hv
  obtain ⟨rfl, hsz, hP, hK, hD0, ham⟩ := hv
  subst hsz
  have hx := B.exec
  have hb := B.bytes
  have hr := B.returns
  have hts : ∀ w ∈ goT, w.before _ s = true := fun w h => atoms_spec (ws := w_S_matches) B.pre w (List.mem_cons_of_mem _ h)
  have hg : ∀ w, goB w = true → w.before _ s = true := fun w h => hts w (goI h)
  have hown : s.vm.findClass R_S = some m.cls := findClass_of_methodNamed B.named
  have hlocks := B.notSynchronized
  have h0 : z_st G (wC ad G st ++ wr) s := ⟨hK, ham⟩
  have hw : z_wl G (wC ad G st ++ wr) s (wC ad G st ++ wr) s.heap [] := z_0 hP hD0
  have hl := lv_entry ([.ref (ad 0), .int p1, .int p2]) (n := 3) (Nat.le_of_ble_eq_true rfl)
  rw [lg_entry_eq]
  generalize (lg_sl ([.ref (ad 0), .int p1, .int p2]) ++ List.replicate (3 - (lg_sl ([.ref (ad 0), .int p1, .int p2])).length) Slot.unset).toArray = ls at hl ⊢
  have hl : lv_has ls 3 [(0, .ref (ad 0)), (1, .int p1), (2, .int p2)] := hl
  refine lv_iload_n hx hb d_S_matches_0 rfl (lv_at hl 1 rfl) ?_
  refine lv_iload_n hx hb d_S_matches_1 rfl (lv_at hl 2 rfl) ?_
  refine lv_ixor hx hb d_S_matches_2 ?_
  refine z_Si0 (As := [.int (p1 ^^^ p2)]) (v := (f_bitCount (p1 ^^^ p2))) ⟨hx, hb, hml, hown, hts⟩ (c_I_bitCount l G (wC ad G st ++ wr) _ (p1 ^^^ p2)) (va_cwS 1 hts gS_S_249 rfl rfl rfl (by decide +kernel) ⟨Nat.le_of_ble_eq_true rfl, Nat.le_of_ble_eq_true rfl⟩) h0 hw rfl hl.1 rfl (Nat.le_of_ble_eq_true rfl) d_S_matches_3 ⟨Nat.le_of_ble_eq_true rfl, Nat.le_of_ble_eq_true rfl⟩ (fun H locs hw => ?_)
  refine lv_aload_n hx hb d_S_matches_6 rfl (lv_at hl 0 rfl) ?_
  refine va_get (D := G.1) (ci := 2) (v := .ref (ad 1)) (C := R_S) (T := T_S) (N := 14) hx hb hts in_S hown h0.1 hw.1 0 rfl rfl 0 (by decide) (hg (.fieldLink R_S 18 "SecureEntry" "configuration" "[I") (by decide +kernel)) (fun _ h9 => h9) rfl d_S_matches_7 ?_
  refine lv_iconst (v := 4) hx hb d_S_matches_10 (by decide) ?_
  refine va_iald hx hb h0.1 hw.1 1 0 rfl rfl (show vp_in 4 6 by unfold vp_in; decide) d_S_matches_11 ?_
  refine lv_icmp_gt (tgt := 19) hx hb d_S_matches_12 (by decide) (fun c_12 => ?_) (fun c_12 => ?_)
  · refine lv_iconst (v := 0) hx hb d_S_matches_19 (by decide) ?_
    exact z_iret (wf := fun _ : Unit => (wC ad G st ++ wr)) (u := ()) hx hb hr hlocks h0 hw rfl (by rw [f_matches, if_pos c_12]) (Nat.le_of_ble_eq_true rfl) (Nat.le_of_ble_eq_true rfl) d_S_matches_20
  · refine lv_iconst (v := 1) hx hb d_S_matches_15 (by decide) ?_
    refine lv_goto (tgt := 20) hx hb d_S_matches_16 (by decide) ?_
    exact z_iret (wf := fun _ : Unit => (wC ad G st ++ wr)) (u := ()) hx hb hr hlocks h0 hw rfl (by rw [f_matches, if_neg c_12]) (Nat.le_of_ble_eq_true rfl) (Nat.le_of_ble_eq_true rfl) d_S_matches_20
set_option maxHeartbeats 4000000 in
set_option maxRecDepth 100000 in
theorem c_S_give (l : Launch) (G : gG) (ad : Nat → Nat) (st : CS) (wr : va_W) (sz : Nat) (p1 : Int32) (a2 : Nat) (hI : InvC st) (hp1 : vp_in p1 6) (hm_a2 : a2 ∈ st.2.2.2.1) : Met l y_S_give w_S_give { frames := 0, cells := 0, slots := 0, locals := 0 } (va_Pc [.ref (ad 0), .int p1, .ref a2] (z_pre G (wC ad G st ++ wr) sz)) (z_Qv0 G (wC ad G st ++ wr) sz (wC ad G (f_give st p1 a2) ++ wr)) 0 0 (va_A (wC ad G st ++ wr) sz) := by
  refine Met.ofW (cc := b_S_give) (maxL := 3) (ret := none) (by decide) rfl ?_
  intro p e s m args below meth c s₁ B hml hv
  obtain ⟨rfl, hsz, hP, hK, hD0, ham⟩ := hv
  subst hsz
  have hx := B.exec
  have hb := B.bytes
  have hr := B.returns
  have hts : ∀ w ∈ goT, w.before _ s = true := fun w h => atoms_spec (ws := w_S_give) B.pre w (List.mem_cons_of_mem _ h)
  have hg : ∀ w, goB w = true → w.before _ s = true := fun w h => hts w (goI h)
  have hown : s.vm.findClass R_S = some m.cls := findClass_of_methodNamed B.named
  have hlocks := B.notSynchronized
  have h0 : z_st G (wC ad G st ++ wr) s := ⟨hK, ham⟩
  have hw : z_wl G (wC ad G st ++ wr) s (wC ad G st ++ wr) s.heap [] := z_0 hP hD0
  have hl := lv_entry ([.ref (ad 0), .int p1, .ref a2]) (n := 3) (Nat.le_of_ble_eq_true rfl)
  rw [lg_entry_eq]
  generalize (lg_sl ([.ref (ad 0), .int p1, .ref a2]) ++ List.replicate (3 - (lg_sl ([.ref (ad 0), .int p1, .ref a2])).length) Slot.unset).toArray = ls at hl ⊢
  have hl : lv_has ls 3 [(0, .ref (ad 0)), (1, .int p1), (2, .ref a2)] := hl
  refine lv_aload_n hx hb d_S_give_0 rfl (lv_at hl 0 rfl) ?_
  refine va_get (D := G.1) (ci := 2) (v := .ref (ad 3)) (C := R_S) (T := T_S) (N := 14) hx hb hts in_S hown h0.1 hw.1 0 rfl rfl 2 (by decide) (hg (.fieldLink R_S 26 "SecureEntry" "certificates" "[LSecureEntry$Certificate;") (by decide +kernel)) (fun _ h9 => h9) rfl d_S_give_1 ?_
  refine lv_iload_n hx hb d_S_give_4 rfl (lv_at hl 1 rfl) ?_
  refine lv_iconst (v := 4) hx hb d_S_give_5 (by decide) ?_
  refine lv_imul hx hb d_S_give_6 ?_
  refine lv_aload_n hx hb d_S_give_7 rfl (lv_at hl 2 rfl) ?_
  obtain ⟨k_8, hk_8⟩ := z_pool (ad := ad) (G := G) (wr := wr) (st := st) hm_a2
  refine va_get (D := G.1) (ci := 0) (v := .int (st.2.2.2.2 a2 0)) (C := R_C) (T := T_C) (N := 7) hx hb hts in_C hown h0.1 hw.1 k_8 hk_8 rfl 0 (by decide) (hg (.fieldLink R_S 237 "SecureEntry$Certificate" "kind" "I") (by decide +kernel)) (fun _ h9 => h9) rfl d_S_give_8 ?_
  refine lv_iadd hx hb d_S_give_11 ?_
  refine lv_aload_n hx hb d_S_give_12 rfl (lv_at hl 2 rfl) ?_
  obtain ⟨k_13, hk_13⟩ := z_pool (ad := ad) (G := G) (wr := wr) (st := st) hm_a2
  refine va_astq hx hb h0.1 hw.1 hw.2.1 hw.2.2 3 1 k_13 0 rfl rfl hk_13 rfl (z_ix (Or.inr hp1) (z_nm1 hp1) (hI.2.1 _ hm_a2).2) d_S_give_13 (fun H locs hP hD hS => ?_)
  have hw : z_wl G (wC ad G st ++ wr) s (wC ad G (sM st (((p1 * 4) + (st.2.2.2.2 a2 0)).toNatClampNeg) a2) ++ wr) H locs := ⟨hP, hD, hS⟩
  exact z_vret (wf := fun _ : Unit => (wC ad G (f_give st p1 a2) ++ wr)) (u := ()) hx hb hr hlocks h0 (by rw [f_give]; exact hw) trivial (Nat.le_of_ble_eq_true rfl) (Nat.le_of_ble_eq_true rfl) d_S_give_14
set_option maxHeartbeats 4000000 in
set_option maxRecDepth 100000 in
theorem c_S_authorisationBy (l : Launch) (G : gG) (ad : Nat → Nat) (st : CS) (wr : va_W) (sz : Nat) (a1 : Nat) (hm_a1 : a1 ∈ st.2.2.2.1) : Met l y_S_authorisationBy w_S_authorisationBy { frames := 2, cells := 1, slots := 7, locals := 39 } (va_Pc [.ref (ad 0), .ref a1] (z_pre G (wC ad G st ++ wr) sz)) (z_Qq G (wC ad G st ++ wr) sz (fun u : Nat => (wC ad G (sN st u (f_authorisationBy st a1)) ++ wr)) (fun r u => r = some u ∧ u ∉ st.2.2.2.1)) 1 7 (va_A (wC ad G st ++ wr) sz) := by
  refine Met.ofW (cc := b_S_authorisationBy) (maxL := 6) (ret := (some (.object "SecureEntry$Certificate"))) (by decide) rfl ?_
  intro p e s m args below meth c s₁ B hml hv
  obtain ⟨rfl, hsz, hP, hK, hD0, ham⟩ := hv
  subst hsz
  have hx := B.exec
  have hb := B.bytes
  have hr := B.returns
  have hts : ∀ w ∈ goT, w.before _ s = true := fun w h => atoms_spec (ws := w_S_authorisationBy) B.pre w (List.mem_cons_of_mem _ h)
  have hg : ∀ w, goB w = true → w.before _ s = true := fun w h => hts w (goI h)
  have hown : s.vm.findClass R_S = some m.cls := findClass_of_methodNamed B.named
  have hlocks := B.notSynchronized
  have h0 : z_st G (wC ad G st ++ wr) s := ⟨hK, ham⟩
  have hw : z_wl G (wC ad G st ++ wr) s (wC ad G st ++ wr) s.heap [] := z_0 hP hD0
  have hl := lv_entry ([.ref (ad 0), .ref a1]) (n := 6) (Nat.le_of_ble_eq_true rfl)
  rw [lg_entry_eq]
  generalize (lg_sl ([.ref (ad 0), .ref a1]) ++ List.replicate (6 - (lg_sl ([.ref (ad 0), .ref a1])).length) Slot.unset).toArray = ls at hl ⊢
  have hl : lv_has ls 6 [(0, .ref (ad 0)), (1, .ref a1)] := hl
  refine lv_iconst (v := 3) hx hb d_S_authorisationBy_0 (by decide) ?_
  refine lv_istore_n (lv' := [(2, .int 3), (0, .ref (ad 0)), (1, .ref a1)]) hx hb d_S_authorisationBy_1 rfl hl (by decide) rfl (fun ls hl => ?_)
  refine lv_iconst (v := 4) hx hb d_S_authorisationBy_2 (by decide) ?_
  refine lv_aload_n hx hb d_S_authorisationBy_3 rfl (lv_at hl 2 rfl) ?_
  obtain ⟨k_4, hk_4⟩ := z_pool (ad := ad) (G := G) (wr := wr) (st := st) hm_a1
  refine z_Vi0 (As := []) (v := (f_clearance (st.2.2.2.2 a1))) ⟨hx, hb, hml, hown, hts⟩ (c_C_clearance l G (wC ad G st ++ wr) _ a1 k_4 (st.2.2.2.2 a1) hk_4) (cwV 0 hts gV_S_254 rfl rfl rfl (by decide +kernel) ⟨Nat.le_of_ble_eq_true rfl, Nat.le_of_ble_eq_true rfl⟩) h0 hw k_4 hk_4 rfl rfl rfl hl.1 rfl (Nat.le_of_ble_eq_true rfl) d_S_authorisationBy_4 ⟨Nat.le_of_ble_eq_true rfl, Nat.le_of_ble_eq_true rfl⟩ (fun H locs hw => ?_)
  refine lv_aload_n hx hb d_S_authorisationBy_7 rfl (lv_at hl 1 rfl) ?_
  refine va_get (D := G.1) (ci := 2) (v := .ref (ad 1)) (C := R_S) (T := T_S) (N := 14) hx hb hts in_S hown h0.1 hw.1 0 rfl rfl 0 (by decide) (hg (.fieldLink R_S 18 "SecureEntry" "configuration" "[I") (by decide +kernel)) (fun _ h9 => h9) rfl d_S_authorisationBy_8 ?_
  refine lv_iconst (v := 5) hx hb d_S_authorisationBy_11 (by decide) ?_
  refine va_iald hx hb h0.1 hw.1 1 0 rfl rfl (show vp_in 5 6 by unfold vp_in; decide) d_S_authorisationBy_12 ?_
  refine va_mmin hx hb (by rw [hml]; exact hl.1.symm) hown (hg (.methodLink R_S 257 Lib.Math.min.name) (by decide +kernel)) (hg (.static Lib.Math.min.name) (by decide +kernel)) (hg (.initialized "java/lang/Math") (by decide +kernel)) (hg (.code Lib.Math.min.name Lib.Math.min.code 2 (some .int)) (by decide +kernel)) (Nat.le_of_ble_eq_true rfl) (Nat.le_of_ble_eq_true rfl) (Nat.le_of_ble_eq_true rfl) (Nat.le_of_ble_eq_true rfl) d_S_authorisationBy_13 ?_
  refine lv_imul hx hb d_S_authorisationBy_16 ?_
  refine lv_aload_n hx hb d_S_authorisationBy_17 rfl (lv_at hl 2 rfl) ?_
  obtain ⟨k_18, hk_18⟩ := z_pool (ad := ad) (G := G) (wr := wr) (st := st) hm_a1
  refine z_Vi0 (As := []) (v := (f_role (st.2.2.2.2 a1))) ⟨hx, hb, hml, hown, hts⟩ (c_C_role l G (wC ad G st ++ wr) _ a1 k_18 (st.2.2.2.2 a1) hk_18) (cwV 0 hts gV_S_246 rfl rfl rfl (by decide +kernel) ⟨Nat.le_of_ble_eq_true rfl, Nat.le_of_ble_eq_true rfl⟩) h0 hw k_18 hk_18 rfl rfl rfl hl.1 rfl (Nat.le_of_ble_eq_true rfl) d_S_authorisationBy_18 ⟨Nat.le_of_ble_eq_true rfl, Nat.le_of_ble_eq_true rfl⟩ (fun H locs hw => ?_)
  refine lv_iadd hx hb d_S_authorisationBy_21 ?_
  refine lv_istore_n (lv' := [(3, .int ((4 * (if ((st.2.1 0) (5 : Int32).toNatClampNeg) < (f_clearance (st.2.2.2.2 a1)) then ((st.2.1 0) (5 : Int32).toNatClampNeg) else (f_clearance (st.2.2.2.2 a1)))) + (f_role (st.2.2.2.2 a1)))), (2, .int 3), (0, .ref (ad 0)), (1, .ref a1)]) hx hb d_S_authorisationBy_22 rfl hl (by decide) rfl (fun ls hl => ?_)
  refine lv_aload_n hx hb d_S_authorisationBy_23 rfl (lv_at hl 2 rfl) ?_
  refine va_get (D := G.1) (ci := 2) (v := .int (st.1 4)) (C := R_S) (T := T_S) (N := 14) hx hb hts in_S hown h0.1 hw.1 0 rfl rfl 4 (by decide) (hg (.fieldLink R_S 101 "SecureEntry" "time" "I") (by decide +kernel)) (fun _ h9 => h9) rfl d_S_authorisationBy_24 ?_
  refine lv_aload_n hx hb d_S_authorisationBy_27 rfl (lv_at hl 2 rfl) ?_
  refine va_get (D := G.1) (ci := 2) (v := .ref (ad 1)) (C := R_S) (T := T_S) (N := 14) hx hb hts in_S hown h0.1 hw.1 0 rfl rfl 0 (by decide) (hg (.fieldLink R_S 18 "SecureEntry" "configuration" "[I") (by decide +kernel)) (fun _ h9 => h9) rfl d_S_authorisationBy_28 ?_
  refine lv_iconst (v := 3) hx hb d_S_authorisationBy_31 (by decide) ?_
  refine va_iald hx hb h0.1 hw.1 1 0 rfl rfl (show vp_in 3 6 by unfold vp_in; decide) d_S_authorisationBy_32 ?_
  refine lv_iadd hx hb d_S_authorisationBy_33 ?_
  refine lv_ldc hx hb hown (hg (.constant R_S 183 100000) (by decide +kernel)) d_S_authorisationBy_34 ?_
  refine va_mmin hx hb (by rw [hml]; exact hl.1.symm) hown (hg (.methodLink R_S 257 Lib.Math.min.name) (by decide +kernel)) (hg (.static Lib.Math.min.name) (by decide +kernel)) (hg (.initialized "java/lang/Math") (by decide +kernel)) (hg (.code Lib.Math.min.name Lib.Math.min.code 2 (some .int)) (by decide +kernel)) (Nat.le_of_ble_eq_true rfl) (Nat.le_of_ble_eq_true rfl) (Nat.le_of_ble_eq_true rfl) (Nat.le_of_ble_eq_true rfl) d_S_authorisationBy_36 ?_
  refine lv_istore (lv' := [(4, .int (if 100000 < ((st.1 4) + ((st.2.1 0) (3 : Int32).toNatClampNeg)) then 100000 else ((st.1 4) + ((st.2.1 0) (3 : Int32).toNatClampNeg)))), (3, .int ((4 * (if ((st.2.1 0) (5 : Int32).toNatClampNeg) < (f_clearance (st.2.2.2.2 a1)) then ((st.2.1 0) (5 : Int32).toNatClampNeg) else (f_clearance (st.2.2.2.2 a1)))) + (f_role (st.2.2.2.2 a1)))), (2, .int 3), (0, .ref (ad 0)), (1, .ref a1)]) hx hb d_S_authorisationBy_39 hl (by decide) rfl (fun ls hl => ?_)
  refine lv_aload_n hx hb d_S_authorisationBy_41 rfl (lv_at hl 3 rfl) ?_
  refine lv_iload_n hx hb d_S_authorisationBy_42 rfl (lv_at hl 2 rfl) ?_
  refine lv_bipush (v := 6) hx hb d_S_authorisationBy_43 (by decide) ?_
  refine lv_aload_n hx hb d_S_authorisationBy_45 rfl (lv_at hl 4 rfl) ?_
  obtain ⟨k_46, hk_46⟩ := z_pool (ad := ad) (G := G) (wr := wr) (st := st) hm_a1
  refine va_get (D := G.1) (ci := 0) (v := .int (st.2.2.2.2 a1 2)) (C := R_C) (T := T_C) (N := 7) hx hb hts in_C hown h0.1 hw.1 k_46 hk_46 rfl 2 (by decide) (hg (.fieldLink R_S 205 "SecureEntry$Certificate" "holder" "I") (by decide +kernel)) (fun _ h9 => h9) rfl d_S_authorisationBy_46 ?_
  refine lv_iload_n hx hb d_S_authorisationBy_49 rfl (lv_at hl 1 rfl) ?_
  refine lv_aload_n hx hb d_S_authorisationBy_50 rfl (lv_at hl 3 rfl) ?_
  refine va_get (D := G.1) (ci := 2) (v := .int (st.1 4)) (C := R_S) (T := T_S) (N := 14) hx hb hts in_S hown h0.1 hw.1 0 rfl rfl 4 (by decide) (hg (.fieldLink R_S 101 "SecureEntry" "time" "I") (by decide +kernel)) (fun _ h9 => h9) rfl d_S_authorisationBy_51 ?_
  refine lv_iload hx hb d_S_authorisationBy_54 (lv_at hl 0 rfl) ?_
  refine z_Vi0 (As := [.int 3, .int 6, .int (st.2.2.2.2 a1 2), .int ((4 * (if ((st.2.1 0) (5 : Int32).toNatClampNeg) < (f_clearance (st.2.2.2.2 a1)) then ((st.2.1 0) (5 : Int32).toNatClampNeg) else (f_clearance (st.2.2.2.2 a1)))) + (f_role (st.2.2.2.2 a1))), .int (st.1 4), .int (if 100000 < ((st.1 4) + ((st.2.1 0) (3 : Int32).toNatClampNeg)) then 100000 else ((st.1 4) + ((st.2.1 0) (3 : Int32).toNatClampNeg)))]) (v := (f_rightSignature st 3 6 (st.2.2.2.2 a1 2) ((4 * (if ((st.2.1 0) (5 : Int32).toNatClampNeg) < (f_clearance (st.2.2.2.2 a1)) then ((st.2.1 0) (5 : Int32).toNatClampNeg) else (f_clearance (st.2.2.2.2 a1)))) + (f_role (st.2.2.2.2 a1))) (st.1 4) (if 100000 < ((st.1 4) + ((st.2.1 0) (3 : Int32).toNatClampNeg)) then 100000 else ((st.1 4) + ((st.2.1 0) (3 : Int32).toNatClampNeg))))) ⟨hx, hb, hml, hown, hts⟩ (c_S_rightSignature l G ad st wr _ 3 6 (st.2.2.2.2 a1 2) ((4 * (if ((st.2.1 0) (5 : Int32).toNatClampNeg) < (f_clearance (st.2.2.2.2 a1)) then ((st.2.1 0) (5 : Int32).toNatClampNeg) else (f_clearance (st.2.2.2.2 a1)))) + (f_role (st.2.2.2.2 a1))) (st.1 4) (if 100000 < ((st.1 4) + ((st.2.1 0) (3 : Int32).toNatClampNeg)) then 100000 else ((st.1 4) + ((st.2.1 0) (3 : Int32).toNatClampNeg))) (by first | assumption | exact hI.2.2.2.1 | exact hI.2.2.2.2 | (unfold vp_in; decide) | exact Or.inr (by assumption) | exact cof_mem hI | (intro a h; cases h; assumption) | exact (hI.2.1 _ (by assumption)).1)) (cwV 6 hts gV_S_61 rfl rfl rfl (by decide +kernel) ⟨Nat.le_of_ble_eq_true rfl, Nat.le_of_ble_eq_true rfl⟩) h0 hw 0 rfl rfl rfl rfl hl.1 rfl (Nat.le_of_ble_eq_true rfl) d_S_authorisationBy_56 ⟨Nat.le_of_ble_eq_true rfl, Nat.le_of_ble_eq_true rfl⟩ (fun H locs hw => ?_)
  refine lv_istore (lv' := [(5, .int (f_rightSignature st 3 6 (st.2.2.2.2 a1 2) ((4 * (if ((st.2.1 0) (5 : Int32).toNatClampNeg) < (f_clearance (st.2.2.2.2 a1)) then ((st.2.1 0) (5 : Int32).toNatClampNeg) else (f_clearance (st.2.2.2.2 a1)))) + (f_role (st.2.2.2.2 a1))) (st.1 4) (if 100000 < ((st.1 4) + ((st.2.1 0) (3 : Int32).toNatClampNeg)) then 100000 else ((st.1 4) + ((st.2.1 0) (3 : Int32).toNatClampNeg))))), (4, .int (if 100000 < ((st.1 4) + ((st.2.1 0) (3 : Int32).toNatClampNeg)) then 100000 else ((st.1 4) + ((st.2.1 0) (3 : Int32).toNatClampNeg)))), (3, .int ((4 * (if ((st.2.1 0) (5 : Int32).toNatClampNeg) < (f_clearance (st.2.2.2.2 a1)) then ((st.2.1 0) (5 : Int32).toNatClampNeg) else (f_clearance (st.2.2.2.2 a1)))) + (f_role (st.2.2.2.2 a1)))), (2, .int 3), (0, .ref (ad 0)), (1, .ref a1)]) hx hb d_S_authorisationBy_59 hl (by decide) rfl (fun ls hl => ?_)
  refine va_new (D := G.1) (ci := 0) (fs := [.int 0, .int 0, .int 0, .int 0, .int 0, .int 0, .int 0]) (C := R_C) (T := T_C) (N := 7) hx hb hts in_C ty_C ty_C_ok hown (hg (.classLink R_S 24 R_C) (by decide +kernel)) (hg (.instantiable R_C 7) (by decide +kernel)) (hg (.initialized R_C) (by decide +kernel)) h0.1 hw.1 hw.2.1 hw.2.2 (fun q h => Or.inr h) rfl (fun j hj => by rcases (show j = 0 ∨ j = 1 ∨ j = 2 ∨ j = 3 ∨ j = 4 ∨ j = 5 ∨ j = 6 by omega) with rfl | rfl | rfl | rfl | rfl | rfl | rfl <;> rfl) (Nat.le_of_ble_eq_true rfl) (Nat.le_of_ble_eq_true rfl) d_S_authorisationBy_61 (fun q_61 H hP hD hS => ?_)
  have hw := z_asc (G := G) (ws0 := (wC ad G st ++ wr)) (s := s) (a := wC ad G st) (b := wr) (c := [(q_61, .inr (0, [.int 0, .int 0, .int 0, .int 0, .int 0, .int 0, .int 0]))]) hP hD hS
  refine lv_dup hx hb d_S_authorisationBy_64 rfl ?_
  refine lv_iload_n hx hb d_S_authorisationBy_65 rfl (lv_at hl 3 rfl) ?_
  refine lv_bipush (v := 6) hx hb d_S_authorisationBy_66 (by decide) ?_
  refine lv_aload_n hx hb d_S_authorisationBy_68 rfl (lv_at hl 5 rfl) ?_
  obtain ⟨k_69, hk_69⟩ := z_pool (ad := ad) (G := G) (wr := (wr ++ [(q_61, .inr (0, [.int 0, .int 0, .int 0, .int 0, .int 0, .int 0, .int 0]))])) (st := st) hm_a1
  refine va_get (D := G.1) (ci := 0) (v := .int (st.2.2.2.2 a1 2)) (C := R_C) (T := T_C) (N := 7) hx hb hts in_C hown h0.1 hw.1 k_69 hk_69 rfl 2 (by decide) (hg (.fieldLink R_S 205 "SecureEntry$Certificate" "holder" "I") (by decide +kernel)) (fun _ h9 => h9) rfl d_S_authorisationBy_69 ?_
  refine lv_iload_n hx hb d_S_authorisationBy_72 rfl (lv_at hl 2 rfl) ?_
  refine lv_aload_n hx hb d_S_authorisationBy_73 rfl (lv_at hl 4 rfl) ?_
  refine va_get (D := G.1) (ci := 2) (v := .int (st.1 4)) (C := R_S) (T := T_S) (N := 14) hx hb hts in_S hown h0.1 hw.1 0 rfl rfl 4 (by decide) (hg (.fieldLink R_S 101 "SecureEntry" "time" "I") (by decide +kernel)) (fun _ h9 => h9) rfl d_S_authorisationBy_74 ?_
  refine lv_iload hx hb d_S_authorisationBy_77 (lv_at hl 1 rfl) ?_
  refine lv_iload hx hb d_S_authorisationBy_79 (lv_at hl 0 rfl) ?_
  have hw := z_csa hw
  refine z_Iv0 (As := [.int 3, .int 6, .int (st.2.2.2.2 a1 2), .int ((4 * (if ((st.2.1 0) (5 : Int32).toNatClampNeg) < (f_clearance (st.2.2.2.2 a1)) then ((st.2.1 0) (5 : Int32).toNatClampNeg) else (f_clearance (st.2.2.2.2 a1)))) + (f_role (st.2.2.2.2 a1))), .int (st.1 4), .int (if 100000 < ((st.1 4) + ((st.2.1 0) (3 : Int32).toNatClampNeg)) then 100000 else ((st.1 4) + ((st.2.1 0) (3 : Int32).toNatClampNeg))), .int (f_rightSignature st 3 6 (st.2.2.2.2 a1 2) ((4 * (if ((st.2.1 0) (5 : Int32).toNatClampNeg) < (f_clearance (st.2.2.2.2 a1)) then ((st.2.1 0) (5 : Int32).toNatClampNeg) else (f_clearance (st.2.2.2.2 a1)))) + (f_role (st.2.2.2.2 a1))) (st.1 4) (if 100000 < ((st.1 4) + ((st.2.1 0) (3 : Int32).toNatClampNeg)) then 100000 else ((st.1 4) + ((st.2.1 0) (3 : Int32).toNatClampNeg))))]) (ws1 := (wC ad G st ++ wr) ++ [(q_61, .inr (0, [.int 3, .int 6, .int (st.2.2.2.2 a1 2), .int ((4 * (if ((st.2.1 0) (5 : Int32).toNatClampNeg) < (f_clearance (st.2.2.2.2 a1)) then ((st.2.1 0) (5 : Int32).toNatClampNeg) else (f_clearance (st.2.2.2.2 a1)))) + (f_role (st.2.2.2.2 a1))), .int (st.1 4), .int (if 100000 < ((st.1 4) + ((st.2.1 0) (3 : Int32).toNatClampNeg)) then 100000 else ((st.1 4) + ((st.2.1 0) (3 : Int32).toNatClampNeg))), .int (f_rightSignature st 3 6 (st.2.2.2.2 a1 2) ((4 * (if ((st.2.1 0) (5 : Int32).toNatClampNeg) < (f_clearance (st.2.2.2.2 a1)) then ((st.2.1 0) (5 : Int32).toNatClampNeg) else (f_clearance (st.2.2.2.2 a1)))) + (f_role (st.2.2.2.2 a1))) (st.1 4) (if 100000 < ((st.1 4) + ((st.2.1 0) (3 : Int32).toNatClampNeg)) then 100000 else ((st.1 4) + ((st.2.1 0) (3 : Int32).toNatClampNeg))))]))]) ⟨hx, hb, hml, hown, hts⟩ (c_C_init l G (wC ad G st ++ wr) _ q_61 3 6 (st.2.2.2.2 a1 2) ((4 * (if ((st.2.1 0) (5 : Int32).toNatClampNeg) < (f_clearance (st.2.2.2.2 a1)) then ((st.2.1 0) (5 : Int32).toNatClampNeg) else (f_clearance (st.2.2.2.2 a1)))) + (f_role (st.2.2.2.2 a1))) (st.1 4) (if 100000 < ((st.1 4) + ((st.2.1 0) (3 : Int32).toNatClampNeg)) then 100000 else ((st.1 4) + ((st.2.1 0) (3 : Int32).toNatClampNeg))) (f_rightSignature st 3 6 (st.2.2.2.2 a1 2) ((4 * (if ((st.2.1 0) (5 : Int32).toNatClampNeg) < (f_clearance (st.2.2.2.2 a1)) then ((st.2.1 0) (5 : Int32).toNatClampNeg) else (f_clearance (st.2.2.2.2 a1)))) + (f_role (st.2.2.2.2 a1))) (st.1 4) (if 100000 < ((st.1 4) + ((st.2.1 0) (3 : Int32).toNatClampNeg)) then 100000 else ((st.1 4) + ((st.2.1 0) (3 : Int32).toNatClampNeg))))) (cwI 7 hts gI_C_init rfl rfl rfl (hg (.initialized R_C) (by decide +kernel)) (hg (.methodLink R_S 80 y_C_init) (by decide +kernel)) (hg (.instanceMethod y_C_init) (by decide +kernel)) rfl (by decide +kernel) ⟨Nat.le_of_ble_eq_true rfl, Nat.le_of_ble_eq_true rfl⟩) h0 hw rfl hl.1 rfl (Nat.le_of_ble_eq_true rfl) d_S_authorisationBy_81 ⟨Nat.le_of_ble_eq_true rfl, Nat.le_of_ble_eq_true rfl⟩ (fun H locs hw => ?_)
  obtain ⟨hq_q_61, hw⟩ := z_into (w := w7 3 6 (st.2.2.2.2 a1 2) ((4 * (if ((st.2.1 0) (5 : Int32).toNatClampNeg) < (f_clearance (st.2.2.2.2 a1)) then ((st.2.1 0) (5 : Int32).toNatClampNeg) else (f_clearance (st.2.2.2.2 a1)))) + (f_role (st.2.2.2.2 a1))) (st.1 4) (if 100000 < ((st.1 4) + ((st.2.1 0) (3 : Int32).toNatClampNeg)) then 100000 else ((st.1 4) + ((st.2.1 0) (3 : Int32).toNatClampNeg))) (f_rightSignature st 3 6 (st.2.2.2.2 a1 2) ((4 * (if ((st.2.1 0) (5 : Int32).toNatClampNeg) < (f_clearance (st.2.2.2.2 a1)) then ((st.2.1 0) (5 : Int32).toNatClampNeg) else (f_clearance (st.2.2.2.2 a1)))) + (f_role (st.2.2.2.2 a1))) (st.1 4) (if 100000 < ((st.1 4) + ((st.2.1 0) (3 : Int32).toNatClampNeg)) then 100000 else ((st.1 4) + ((st.2.1 0) (3 : Int32).toNatClampNeg))))) hw
  have hm_q_61 : q_61 ∈ (sN st q_61 (w7 3 6 (st.2.2.2.2 a1 2) ((4 * (if ((st.2.1 0) (5 : Int32).toNatClampNeg) < (f_clearance (st.2.2.2.2 a1)) then ((st.2.1 0) (5 : Int32).toNatClampNeg) else (f_clearance (st.2.2.2.2 a1)))) + (f_role (st.2.2.2.2 a1))) (st.1 4) (if 100000 < ((st.1 4) + ((st.2.1 0) (3 : Int32).toNatClampNeg)) then 100000 else ((st.1 4) + ((st.2.1 0) (3 : Int32).toNatClampNeg))) (f_rightSignature st 3 6 (st.2.2.2.2 a1 2) ((4 * (if ((st.2.1 0) (5 : Int32).toNatClampNeg) < (f_clearance (st.2.2.2.2 a1)) then ((st.2.1 0) (5 : Int32).toNatClampNeg) else (f_clearance (st.2.2.2.2 a1)))) + (f_role (st.2.2.2.2 a1))) (st.1 4) (if 100000 < ((st.1 4) + ((st.2.1 0) (3 : Int32).toNatClampNeg)) then 100000 else ((st.1 4) + ((st.2.1 0) (3 : Int32).toNatClampNeg)))))).2.2.2.1 := z_inN
  exact z_qret (wf := fun u : Nat => (wC ad G (sN st u (f_authorisationBy st a1)) ++ wr)) (u := q_61) (r := some q_61) hx hb hr (Or.inl ⟨_, rfl⟩) hlocks h0 (by rw [f_authorisationBy]; exact hw) ⟨rfl, hq_q_61⟩ (Nat.le_of_ble_eq_true rfl) (Nat.le_of_ble_eq_true rfl) d_S_authorisationBy_84
set_option maxHeartbeats 4000000 in
set_option maxRecDepth 100000 in
theorem c_S_isValid (l : Launch) (G : gG) (ad : Nat → Nat) (st : CS) (wr : va_W) (sz : Nat) (q1 : Option Nat) (hI : InvC st) (hq : ∀ a, q1 = some a → a ∈ st.2.2.2.1) : Met l y_S_isValid w_S_isValid { frames := 1, cells := 0, slots := 0, locals := 27 } (va_Pc [.ref (ad 0), va_rf q1] (z_pre G (wC ad G st ++ wr) sz)) (z_Qi0 G (wC ad G st ++ wr) sz (wC ad G st ++ wr) (f_isValid st q1)) 0 0 (va_A (wC ad G st ++ wr) sz) := by
  refine Met.ofW (cc := b_S_isValid) (maxL := 2) (ret := (some .boolean)) (by decide) rfl ?_
  intro p e s m args below meth c s₁ B hml hv
  obtain ⟨rfl, hsz, hP, hK, hD0, ham⟩ := hv
  subst hsz
  have hx := B.exec
  have hb := B.bytes
  have hr := B.returns
  have hts : ∀ w ∈ goT, w.before _ s = true := fun w h => atoms_spec (ws := w_S_isValid) B.pre w (List.mem_cons_of_mem _ h)
  have hg : ∀ w, goB w = true → w.before _ s = true := fun w h => hts w (goI h)
  have hown : s.vm.findClass R_S = some m.cls := findClass_of_methodNamed B.named
  have hlocks := B.notSynchronized
  have h0 : z_st G (wC ad G st ++ wr) s := ⟨hK, ham⟩
  have hw : z_wl G (wC ad G st ++ wr) s (wC ad G st ++ wr) s.heap [] := z_0 hP hD0
  have hl := lv_entry ([.ref (ad 0), va_rf q1]) (n := 2) (by cases q1 <;> exact Nat.le_of_ble_eq_true rfl)
  rw [lg_entry_eq]
  generalize (lg_sl ([.ref (ad 0), va_rf q1]) ++ List.replicate (2 - (lg_sl ([.ref (ad 0), va_rf q1])).length) Slot.unset).toArray = ls at hl ⊢
  have hl : lv_has ls 2 [(0, .ref (ad 0)), (1, va_rf q1)] := by cases q1 <;> exact hl
  refine z_aload_n (r := q1) hx hb d_S_isValid_0 rfl (lv_at hl 1 rfl) ?_
  refine z_ifnull (r := q1) (tgt := 79) hx hb d_S_isValid_1 (by decide) (fun e_1 => ?_) (fun a_1 e_1 => ?_)
  · have hl : lv_has ls 2 [(0, .ref (ad 0)), (1, .null)] := by rw [e_1] at hl; exact hl
    refine lv_iconst (v := 0) hx hb d_S_isValid_79 (by decide) ?_
    exact z_iret (wf := fun _ : Unit => (wC ad G st ++ wr)) (u := ()) hx hb hr hlocks h0 hw rfl (by rw [f_isValid, e_1, oel_none]) (Nat.le_of_ble_eq_true rfl) (Nat.le_of_ble_eq_true rfl) d_S_isValid_80
  · have hl : lv_has ls 2 [(0, .ref (ad 0)), (1, .ref a_1)] := by rw [e_1] at hl; exact hl
    have hm_a_1 : a_1 ∈ st.2.2.2.1 := hq _ e_1
    refine lv_aload_n hx hb d_S_isValid_4 rfl (lv_at hl 0 rfl) ?_
    refine lv_aload_n hx hb d_S_isValid_5 rfl (lv_at hl 1 rfl) ?_
    obtain ⟨k_6, hk_6⟩ := z_pool (ad := ad) (G := G) (wr := wr) (st := st) hm_a_1
    refine va_get (D := G.1) (ci := 0) (v := .int (st.2.2.2.2 a_1 1)) (C := R_C) (T := T_C) (N := 7) hx hb hts in_C hown h0.1 hw.1 k_6 hk_6 rfl 1 (by decide) (hg (.fieldLink R_S 202 "SecureEntry$Certificate" "issuer" "I") (by decide +kernel)) (fun _ h9 => h9) rfl d_S_isValid_6 ?_
    refine z_Vi0 (As := [.int (st.2.2.2.2 a_1 1)]) (v := (f_isEnrolled st (st.2.2.2.2 a_1 1))) ⟨hx, hb, hml, hown, hts⟩ (c_S_isEnrolled l G ad st wr _ (st.2.2.2.2 a_1 1) (by first | assumption | exact hI.2.2.2.1 | exact hI.2.2.2.2 | (unfold vp_in; decide) | exact Or.inr (by assumption) | exact cof_mem hI | (intro a h; cases h; assumption) | exact (hI.2.1 _ (by assumption)).1)) (cwV 1 hts gV_S_57 rfl rfl rfl (by decide +kernel) ⟨Nat.le_of_ble_eq_true rfl, Nat.le_of_ble_eq_true rfl⟩) h0 hw 0 rfl rfl rfl rfl hl.1 rfl (Nat.le_of_ble_eq_true rfl) d_S_isValid_9 ⟨Nat.le_of_ble_eq_true rfl, Nat.le_of_ble_eq_true rfl⟩ (fun H locs hw => ?_)
    refine lv_if_eq (tgt := 79) hx hb d_S_isValid_12 (by decide) (fun c_12 => ?_) (fun c_12 => ?_)
    · refine lv_iconst (v := 0) hx hb d_S_isValid_79 (by decide) ?_
      exact z_iret (wf := fun _ : Unit => (wC ad G st ++ wr)) (u := ()) hx hb hr hlocks h0 hw rfl (by rw [f_isValid, e_1, oel_some, if_pos c_12]) (Nat.le_of_ble_eq_true rfl) (Nat.le_of_ble_eq_true rfl) d_S_isValid_80
    · refine lv_aload_n hx hb d_S_isValid_15 rfl (lv_at hl 0 rfl) ?_
      refine va_get (D := G.1) (ci := 2) (v := .int (st.1 4)) (C := R_S) (T := T_S) (N := 14) hx hb hts in_S hown h0.1 hw.1 0 rfl rfl 4 (by decide) (hg (.fieldLink R_S 101 "SecureEntry" "time" "I") (by decide +kernel)) (fun _ h9 => h9) rfl d_S_isValid_16 ?_
      refine lv_aload_n hx hb d_S_isValid_19 rfl (lv_at hl 1 rfl) ?_
      obtain ⟨k_20, hk_20⟩ := z_pool (ad := ad) (G := G) (wr := wr) (st := st) hm_a_1
      refine va_get (D := G.1) (ci := 0) (v := .int (st.2.2.2.2 a_1 4)) (C := R_C) (T := T_C) (N := 7) hx hb hts in_C hown h0.1 hw.1 k_20 hk_20 rfl 4 (by decide) (hg (.fieldLink R_S 208 "SecureEntry$Certificate" "from" "I") (by decide +kernel)) (fun _ h9 => h9) rfl d_S_isValid_20 ?_
      refine lv_aload_n hx hb d_S_isValid_23 rfl (lv_at hl 1 rfl) ?_
      obtain ⟨k_24, hk_24⟩ := z_pool (ad := ad) (G := G) (wr := wr) (st := st) hm_a_1
      refine va_get (D := G.1) (ci := 0) (v := .int (st.2.2.2.2 a_1 5)) (C := R_C) (T := T_C) (N := 7) hx hb hts in_C hown h0.1 hw.1 k_24 hk_24 rfl 5 (by decide) (hg (.fieldLink R_S 211 "SecureEntry$Certificate" "to" "I") (by decide +kernel)) (fun _ h9 => h9) rfl d_S_isValid_24 ?_
      refine z_Si0 (As := [.int (st.1 4), .int (st.2.2.2.2 a_1 4), .int (st.2.2.2.2 a_1 5)]) (v := (f_isWithin (st.1 4) (st.2.2.2.2 a_1 4) (st.2.2.2.2 a_1 5))) ⟨hx, hb, hml, hown, hts⟩ (c_S_isWithin l G (wC ad G st ++ wr) _ (st.1 4) (st.2.2.2.2 a_1 4) (st.2.2.2.2 a_1 5)) (cwS 3 hts gS_S_69 rfl rfl rfl (by decide +kernel) ⟨Nat.le_of_ble_eq_true rfl, Nat.le_of_ble_eq_true rfl⟩) h0 hw rfl hl.1 rfl (Nat.le_of_ble_eq_true rfl) d_S_isValid_27 ⟨Nat.le_of_ble_eq_true rfl, Nat.le_of_ble_eq_true rfl⟩ (fun H locs hw => ?_)
      refine lv_if_eq (tgt := 79) hx hb d_S_isValid_30 (by decide) (fun c_30 => ?_) (fun c_30 => ?_)
      · refine lv_iconst (v := 0) hx hb d_S_isValid_79 (by decide) ?_
        exact z_iret (wf := fun _ : Unit => (wC ad G st ++ wr)) (u := ()) hx hb hr hlocks h0 hw rfl (by rw [f_isValid, e_1, oel_some, if_neg c_12, if_pos c_30]) (Nat.le_of_ble_eq_true rfl) (Nat.le_of_ble_eq_true rfl) d_S_isValid_80
      · refine lv_aload_n hx hb d_S_isValid_33 rfl (lv_at hl 1 rfl) ?_
        obtain ⟨k_34, hk_34⟩ := z_pool (ad := ad) (G := G) (wr := wr) (st := st) hm_a_1
        refine z_Vi0 (As := []) (v := (f_isFitForItsKind (st.2.2.2.2 a_1))) ⟨hx, hb, hml, hown, hts⟩ (c_C_isFitForItsKind l G (wC ad G st ++ wr) _ a_1 k_34 (st.2.2.2.2 a_1) hk_34) (cwV 0 hts gV_S_240 rfl rfl rfl (by decide +kernel) ⟨Nat.le_of_ble_eq_true rfl, Nat.le_of_ble_eq_true rfl⟩) h0 hw k_34 hk_34 rfl rfl rfl hl.1 rfl (Nat.le_of_ble_eq_true rfl) d_S_isValid_34 ⟨Nat.le_of_ble_eq_true rfl, Nat.le_of_ble_eq_true rfl⟩ (fun H locs hw => ?_)
        refine lv_if_eq (tgt := 79) hx hb d_S_isValid_37 (by decide) (fun c_37 => ?_) (fun c_37 => ?_)
        · refine lv_iconst (v := 0) hx hb d_S_isValid_79 (by decide) ?_
          exact z_iret (wf := fun _ : Unit => (wC ad G st ++ wr)) (u := ()) hx hb hr hlocks h0 hw rfl (by rw [f_isValid, e_1, oel_some, if_neg c_12, if_neg c_30, if_pos c_37]) (Nat.le_of_ble_eq_true rfl) (Nat.le_of_ble_eq_true rfl) d_S_isValid_80
        · refine lv_aload_n hx hb d_S_isValid_40 rfl (lv_at hl 1 rfl) ?_
          obtain ⟨k_41, hk_41⟩ := z_pool (ad := ad) (G := G) (wr := wr) (st := st) hm_a_1
          refine va_get (D := G.1) (ci := 0) (v := .int (st.2.2.2.2 a_1 6)) (C := R_C) (T := T_C) (N := 7) hx hb hts in_C hown h0.1 hw.1 k_41 hk_41 rfl 6 (by decide) (hg (.fieldLink R_S 214 "SecureEntry$Certificate" "signature" "I") (by decide +kernel)) (fun _ h9 => h9) rfl d_S_isValid_41 ?_
          refine lv_aload_n hx hb d_S_isValid_44 rfl (lv_at hl 0 rfl) ?_
          refine lv_aload_n hx hb d_S_isValid_45 rfl (lv_at hl 1 rfl) ?_
          obtain ⟨k_46, hk_46⟩ := z_pool (ad := ad) (G := G) (wr := wr) (st := st) hm_a_1
          refine va_get (D := G.1) (ci := 0) (v := .int (st.2.2.2.2 a_1 0)) (C := R_C) (T := T_C) (N := 7) hx hb hts in_C hown h0.1 hw.1 k_46 hk_46 rfl 0 (by decide) (hg (.fieldLink R_S 237 "SecureEntry$Certificate" "kind" "I") (by decide +kernel)) (fun _ h9 => h9) rfl d_S_isValid_46 ?_
          refine lv_aload_n hx hb d_S_isValid_49 rfl (lv_at hl 1 rfl) ?_
          obtain ⟨k_50, hk_50⟩ := z_pool (ad := ad) (G := G) (wr := wr) (st := st) hm_a_1
          refine va_get (D := G.1) (ci := 0) (v := .int (st.2.2.2.2 a_1 1)) (C := R_C) (T := T_C) (N := 7) hx hb hts in_C hown h0.1 hw.1 k_50 hk_50 rfl 1 (by decide) (hg (.fieldLink R_S 202 "SecureEntry$Certificate" "issuer" "I") (by decide +kernel)) (fun _ h9 => h9) rfl d_S_isValid_50 ?_
          refine lv_aload_n hx hb d_S_isValid_53 rfl (lv_at hl 1 rfl) ?_
          obtain ⟨k_54, hk_54⟩ := z_pool (ad := ad) (G := G) (wr := wr) (st := st) hm_a_1
          refine va_get (D := G.1) (ci := 0) (v := .int (st.2.2.2.2 a_1 2)) (C := R_C) (T := T_C) (N := 7) hx hb hts in_C hown h0.1 hw.1 k_54 hk_54 rfl 2 (by decide) (hg (.fieldLink R_S 205 "SecureEntry$Certificate" "holder" "I") (by decide +kernel)) (fun _ h9 => h9) rfl d_S_isValid_54 ?_
          refine lv_aload_n hx hb d_S_isValid_57 rfl (lv_at hl 1 rfl) ?_
          obtain ⟨k_58, hk_58⟩ := z_pool (ad := ad) (G := G) (wr := wr) (st := st) hm_a_1
          refine va_get (D := G.1) (ci := 0) (v := .int (st.2.2.2.2 a_1 3)) (C := R_C) (T := T_C) (N := 7) hx hb hts in_C hown h0.1 hw.1 k_58 hk_58 rfl 3 (by decide) (hg (.fieldLink R_S 131 "SecureEntry$Certificate" "value" "I") (by decide +kernel)) (fun _ h9 => h9) rfl d_S_isValid_58 ?_
          refine lv_aload_n hx hb d_S_isValid_61 rfl (lv_at hl 1 rfl) ?_
          obtain ⟨k_62, hk_62⟩ := z_pool (ad := ad) (G := G) (wr := wr) (st := st) hm_a_1
          refine va_get (D := G.1) (ci := 0) (v := .int (st.2.2.2.2 a_1 4)) (C := R_C) (T := T_C) (N := 7) hx hb hts in_C hown h0.1 hw.1 k_62 hk_62 rfl 4 (by decide) (hg (.fieldLink R_S 208 "SecureEntry$Certificate" "from" "I") (by decide +kernel)) (fun _ h9 => h9) rfl d_S_isValid_62 ?_
          refine lv_aload_n hx hb d_S_isValid_65 rfl (lv_at hl 1 rfl) ?_
          obtain ⟨k_66, hk_66⟩ := z_pool (ad := ad) (G := G) (wr := wr) (st := st) hm_a_1
          refine va_get (D := G.1) (ci := 0) (v := .int (st.2.2.2.2 a_1 5)) (C := R_C) (T := T_C) (N := 7) hx hb hts in_C hown h0.1 hw.1 k_66 hk_66 rfl 5 (by decide) (hg (.fieldLink R_S 211 "SecureEntry$Certificate" "to" "I") (by decide +kernel)) (fun _ h9 => h9) rfl d_S_isValid_66 ?_
          refine z_Vi0 (As := [.int (st.2.2.2.2 a_1 0), .int (st.2.2.2.2 a_1 1), .int (st.2.2.2.2 a_1 2), .int (st.2.2.2.2 a_1 3), .int (st.2.2.2.2 a_1 4), .int (st.2.2.2.2 a_1 5)]) (v := (f_rightSignature st (st.2.2.2.2 a_1 0) (st.2.2.2.2 a_1 1) (st.2.2.2.2 a_1 2) (st.2.2.2.2 a_1 3) (st.2.2.2.2 a_1 4) (st.2.2.2.2 a_1 5))) ⟨hx, hb, hml, hown, hts⟩ (c_S_rightSignature l G ad st wr _ (st.2.2.2.2 a_1 0) (st.2.2.2.2 a_1 1) (st.2.2.2.2 a_1 2) (st.2.2.2.2 a_1 3) (st.2.2.2.2 a_1 4) (st.2.2.2.2 a_1 5) (by first | assumption | exact hI.2.2.2.1 | exact hI.2.2.2.2 | (unfold vp_in; decide) | exact Or.inr (by assumption) | exact cof_mem hI | (intro a h; cases h; assumption) | exact (hI.2.1 _ (by assumption)).1)) (cwV 6 hts gV_S_61 rfl rfl rfl (by decide +kernel) ⟨Nat.le_of_ble_eq_true rfl, Nat.le_of_ble_eq_true rfl⟩) h0 hw 0 rfl rfl rfl rfl hl.1 rfl (Nat.le_of_ble_eq_true rfl) d_S_isValid_69 ⟨Nat.le_of_ble_eq_true rfl, Nat.le_of_ble_eq_true rfl⟩ (fun H locs hw => ?_)
          refine lv_icmp_ne (tgt := 79) hx hb d_S_isValid_72 (by decide) (fun c_72 => ?_) (fun c_72 => ?_)
          · refine lv_iconst (v := 0) hx hb d_S_isValid_79 (by decide) ?_
            exact z_iret (wf := fun _ : Unit => (wC ad G st ++ wr)) (u := ()) hx hb hr hlocks h0 hw rfl (by rw [f_isValid, e_1, oel_some, if_neg c_12, if_neg c_30, if_neg c_37, if_neg c_72]) (Nat.le_of_ble_eq_true rfl) (Nat.le_of_ble_eq_true rfl) d_S_isValid_80
          · refine lv_iconst (v := 1) hx hb d_S_isValid_75 (by decide) ?_
            refine lv_goto (tgt := 80) hx hb d_S_isValid_76 (by decide) ?_
            exact z_iret (wf := fun _ : Unit => (wC ad G st ++ wr)) (u := ()) hx hb hr hlocks h0 hw rfl (by rw [f_isValid, e_1, oel_some, if_neg c_12, if_neg c_30, if_neg c_37, if_pos c_72]) (Nat.le_of_ble_eq_true rfl) (Nat.le_of_ble_eq_true rfl) d_S_isValid_80
set_option maxHeartbeats 4000000 in
set_option maxRecDepth 100000 in
theorem c_S_isValidForIdHolder (l : Launch) (G : gG) (ad : Nat → Nat) (st : CS) (wr : va_W) (sz : Nat) (p1 : Int32) (p2 : Int32) (hI : InvC st) (hp1 : tokOK p1) (hp2 : vp_in p2 4) : Met l y_S_isValidForIdHolder w_S_isValidForIdHolder { frames := 2, cells := 0, slots := 0, locals := 48 } (va_Pc [.ref (ad 0), .int p1, .int p2] (z_pre G (wC ad G st ++ wr) sz)) (z_Qi0 G (wC ad G st ++ wr) sz (wC ad G st ++ wr) (f_isValidForIdHolder st p1 p2)) 0 0 (va_A (wC ad G st ++ wr) sz) := by
  refine Met.ofW (cc := b_S_isValidForIdHolder) (maxL := 5) (ret := (some .boolean)) (by decide) rfl ?_
  intro p e s m args below meth c s₁ B hml hv
  obtain ⟨rfl, hsz, hP, hK, hD0, ham⟩ := hv
  subst hsz
  have hx := B.exec
  have hb := B.bytes
  have hr := B.returns
  have hts : ∀ w ∈ goT, w.before _ s = true := fun w h => atoms_spec (ws := w_S_isValidForIdHolder) B.pre w (List.mem_cons_of_mem _ h)
  have hg : ∀ w, goB w = true → w.before _ s = true := fun w h => hts w (goI h)
  have hown : s.vm.findClass R_S = some m.cls := findClass_of_methodNamed B.named
  have hlocks := B.notSynchronized
  have h0 : z_st G (wC ad G st ++ wr) s := ⟨hK, ham⟩
  have hw : z_wl G (wC ad G st ++ wr) s (wC ad G st ++ wr) s.heap [] := z_0 hP hD0
  have hl := lv_entry ([.ref (ad 0), .int p1, .int p2]) (n := 5) (Nat.le_of_ble_eq_true rfl)
  rw [lg_entry_eq]
  generalize (lg_sl ([.ref (ad 0), .int p1, .int p2]) ++ List.replicate (5 - (lg_sl ([.ref (ad 0), .int p1, .int p2])).length) Slot.unset).toArray = ls at hl ⊢
  have hl : lv_has ls 5 [(0, .ref (ad 0)), (1, .int p1), (2, .int p2)] := hl
  refine lv_aload_n hx hb d_S_isValidForIdHolder_0 rfl (lv_at hl 0 rfl) ?_
  refine lv_iload_n hx hb d_S_isValidForIdHolder_1 rfl (lv_at hl 1 rfl) ?_
  refine lv_iconst (v := 0) hx hb d_S_isValidForIdHolder_2 (by decide) ?_
  refine z_Vq0 (As := [.int p1, .int 0]) (v := (f_certificateOf st p1 0)) ⟨hx, hb, hml, hown, hts⟩ (c_S_certificateOf l G ad st wr _ p1 0 (by first | assumption | exact hI.2.2.2.1 | exact hI.2.2.2.2 | (unfold vp_in; decide) | exact Or.inr (by assumption) | exact cof_mem hI | (intro a h; cases h; assumption) | exact (hI.2.1 _ (by assumption)).1) (by first | assumption | exact hI.2.2.2.1 | exact hI.2.2.2.2 | (unfold vp_in; decide) | exact Or.inr (by assumption) | exact cof_mem hI | (intro a h; cases h; assumption) | exact (hI.2.1 _ (by assumption)).1)) (cwV 2 hts gV_S_76 rfl rfl rfl (by decide +kernel) ⟨Nat.le_of_ble_eq_true rfl, Nat.le_of_ble_eq_true rfl⟩) h0 hw 0 rfl rfl rfl rfl hl.1 rfl (Nat.le_of_ble_eq_true rfl) d_S_isValidForIdHolder_3 ⟨Nat.le_of_ble_eq_true rfl, Nat.le_of_ble_eq_true rfl⟩ (fun H locs hw => ?_)
  refine z_astore_n (r := (f_certificateOf st p1 0)) (lv' := [(3, va_rf (f_certificateOf st p1 0)), (0, .ref (ad 0)), (1, .int p1), (2, .int p2)]) hx hb d_S_isValidForIdHolder_6 rfl hl (by decide) rfl (fun ls hl => ?_)
  refine lv_aload_n hx hb d_S_isValidForIdHolder_7 rfl (lv_at hl 1 rfl) ?_
  refine lv_iload_n hx hb d_S_isValidForIdHolder_8 rfl (lv_at hl 2 rfl) ?_
  refine lv_iload_n hx hb d_S_isValidForIdHolder_9 rfl (lv_at hl 3 rfl) ?_
  refine z_Vq0 (As := [.int p1, .int p2]) (v := (f_certificateOf st p1 p2)) ⟨hx, hb, hml, hown, hts⟩ (c_S_certificateOf l G ad st wr _ p1 p2 (by first | assumption | exact hI.2.2.2.1 | exact hI.2.2.2.2 | (unfold vp_in; decide) | exact Or.inr (by assumption) | exact cof_mem hI | (intro a h; cases h; assumption) | exact (hI.2.1 _ (by assumption)).1) (by first | assumption | exact hI.2.2.2.1 | exact hI.2.2.2.2 | (unfold vp_in; decide) | exact Or.inr (by assumption) | exact cof_mem hI | (intro a h; cases h; assumption) | exact (hI.2.1 _ (by assumption)).1)) (cwV 2 hts gV_S_76 rfl rfl rfl (by decide +kernel) ⟨Nat.le_of_ble_eq_true rfl, Nat.le_of_ble_eq_true rfl⟩) h0 hw 0 rfl rfl rfl rfl hl.1 rfl (Nat.le_of_ble_eq_true rfl) d_S_isValidForIdHolder_10 ⟨Nat.le_of_ble_eq_true rfl, Nat.le_of_ble_eq_true rfl⟩ (fun H locs hw => ?_)
  refine z_astore (r := (f_certificateOf st p1 p2)) (lv' := [(4, va_rf (f_certificateOf st p1 p2)), (3, va_rf (f_certificateOf st p1 0)), (0, .ref (ad 0)), (1, .int p1), (2, .int p2)]) hx hb d_S_isValidForIdHolder_13 hl (by decide) (by simp [z_cat]) (fun ls hl => ?_)
  refine z_aload_n (r := (f_certificateOf st p1 0)) hx hb d_S_isValidForIdHolder_15 rfl (lv_at hl 1 rfl) ?_
  refine z_ifnull (r := (f_certificateOf st p1 0)) (tgt := 57) hx hb d_S_isValidForIdHolder_16 (by decide) (fun e_16 => ?_) (fun a_16 e_16 => ?_)
  · have hl : lv_has ls 5 [(4, va_rf (f_certificateOf st p1 p2)), (3, .null), (0, .ref (ad 0)), (1, .int p1), (2, .int p2)] := by rw [e_16] at hl; exact hl
    refine lv_iconst (v := 0) hx hb d_S_isValidForIdHolder_57 (by decide) ?_
    exact z_iret (wf := fun _ : Unit => (wC ad G st ++ wr)) (u := ()) hx hb hr hlocks h0 hw rfl (by rw [f_isValidForIdHolder, e_16, oel_none]) (Nat.le_of_ble_eq_true rfl) (Nat.le_of_ble_eq_true rfl) d_S_isValidForIdHolder_58
  · have hl : lv_has ls 5 [(4, va_rf (f_certificateOf st p1 p2)), (3, .ref a_16), (0, .ref (ad 0)), (1, .int p1), (2, .int p2)] := by rw [e_16] at hl; exact hl
    have hm_a_16 : a_16 ∈ st.2.2.2.1 := cof_mem hI _ e_16
    refine z_aload (r := (f_certificateOf st p1 p2)) hx hb d_S_isValidForIdHolder_19 (lv_at hl 0 rfl) ?_
    refine z_ifnull (r := (f_certificateOf st p1 p2)) (tgt := 57) hx hb d_S_isValidForIdHolder_21 (by decide) (fun e_21 => ?_) (fun a_21 e_21 => ?_)
    · have hl : lv_has ls 5 [(4, .null), (3, .ref a_16), (0, .ref (ad 0)), (1, .int p1), (2, .int p2)] := by rw [e_21] at hl; exact hl
      refine lv_iconst (v := 0) hx hb d_S_isValidForIdHolder_57 (by decide) ?_
      exact z_iret (wf := fun _ : Unit => (wC ad G st ++ wr)) (u := ()) hx hb hr hlocks h0 hw rfl (by rw [f_isValidForIdHolder, e_16, oel_some, e_21, oel_none]) (Nat.le_of_ble_eq_true rfl) (Nat.le_of_ble_eq_true rfl) d_S_isValidForIdHolder_58
    · have hl : lv_has ls 5 [(4, .ref a_21), (3, .ref a_16), (0, .ref (ad 0)), (1, .int p1), (2, .int p2)] := by rw [e_21] at hl; exact hl
      have hm_a_21 : a_21 ∈ st.2.2.2.1 := cof_mem hI _ e_21
      refine lv_aload_n hx hb d_S_isValidForIdHolder_24 rfl (lv_at hl 1 rfl) ?_
      obtain ⟨k_25, hk_25⟩ := z_pool (ad := ad) (G := G) (wr := wr) (st := st) hm_a_16
      refine va_get (D := G.1) (ci := 0) (v := .int (st.2.2.2.2 a_16 2)) (C := R_C) (T := T_C) (N := 7) hx hb hts in_C hown h0.1 hw.1 k_25 hk_25 rfl 2 (by decide) (hg (.fieldLink R_S 205 "SecureEntry$Certificate" "holder" "I") (by decide +kernel)) (fun _ h9 => h9) rfl d_S_isValidForIdHolder_25 ?_
      refine lv_aload hx hb d_S_isValidForIdHolder_28 (lv_at hl 0 rfl) ?_
      obtain ⟨k_30, hk_30⟩ := z_pool (ad := ad) (G := G) (wr := wr) (st := st) hm_a_21
      refine va_get (D := G.1) (ci := 0) (v := .int (st.2.2.2.2 a_21 2)) (C := R_C) (T := T_C) (N := 7) hx hb hts in_C hown h0.1 hw.1 k_30 hk_30 rfl 2 (by decide) (hg (.fieldLink R_S 205 "SecureEntry$Certificate" "holder" "I") (by decide +kernel)) (fun _ h9 => h9) rfl d_S_isValidForIdHolder_30 ?_
      refine lv_icmp_ne (tgt := 57) hx hb d_S_isValidForIdHolder_33 (by decide) (fun c_33 => ?_) (fun c_33 => ?_)
      · refine lv_iconst (v := 0) hx hb d_S_isValidForIdHolder_57 (by decide) ?_
        exact z_iret (wf := fun _ : Unit => (wC ad G st ++ wr)) (u := ()) hx hb hr hlocks h0 hw rfl (by rw [f_isValidForIdHolder, e_16, oel_some, e_21, oel_some, if_neg c_33]) (Nat.le_of_ble_eq_true rfl) (Nat.le_of_ble_eq_true rfl) d_S_isValidForIdHolder_58
      · refine lv_aload_n hx hb d_S_isValidForIdHolder_36 rfl (lv_at hl 2 rfl) ?_
        refine lv_aload_n hx hb d_S_isValidForIdHolder_37 rfl (lv_at hl 1 rfl) ?_
        refine z_Vi0 (As := [.ref a_16]) (v := (f_isValid st (some a_16))) ⟨hx, hb, hml, hown, hts⟩ (c_S_isValid l G ad st wr _ (some a_16) (by first | assumption | exact hI.2.2.2.1 | exact hI.2.2.2.2 | (unfold vp_in; decide) | exact Or.inr (by assumption) | exact cof_mem hI | (intro a h; cases h; assumption) | exact (hI.2.1 _ (by assumption)).1) (by first | assumption | exact hI.2.2.2.1 | exact hI.2.2.2.2 | (unfold vp_in; decide) | exact Or.inr (by assumption) | exact cof_mem hI | (intro a h; cases h; assumption) | exact (hI.2.1 _ (by assumption)).1)) (cwV 1 hts gV_S_217 rfl rfl rfl (by decide +kernel) ⟨Nat.le_of_ble_eq_true rfl, Nat.le_of_ble_eq_true rfl⟩) h0 hw 0 rfl rfl rfl rfl hl.1 rfl (Nat.le_of_ble_eq_true rfl) d_S_isValidForIdHolder_38 ⟨Nat.le_of_ble_eq_true rfl, Nat.le_of_ble_eq_true rfl⟩ (fun H locs hw => ?_)
        refine lv_if_eq (tgt := 57) hx hb d_S_isValidForIdHolder_41 (by decide) (fun c_41 => ?_) (fun c_41 => ?_)
        · refine lv_iconst (v := 0) hx hb d_S_isValidForIdHolder_57 (by decide) ?_
          exact z_iret (wf := fun _ : Unit => (wC ad G st ++ wr)) (u := ()) hx hb hr hlocks h0 hw rfl (by rw [f_isValidForIdHolder, e_16, oel_some, e_21, oel_some, if_pos c_33, if_pos c_41]) (Nat.le_of_ble_eq_true rfl) (Nat.le_of_ble_eq_true rfl) d_S_isValidForIdHolder_58
        · refine lv_aload_n hx hb d_S_isValidForIdHolder_44 rfl (lv_at hl 2 rfl) ?_
          refine lv_aload hx hb d_S_isValidForIdHolder_45 (lv_at hl 0 rfl) ?_
          refine z_Vi0 (As := [.ref a_21]) (v := (f_isValid st (some a_21))) ⟨hx, hb, hml, hown, hts⟩ (c_S_isValid l G ad st wr _ (some a_21) (by first | assumption | exact hI.2.2.2.1 | exact hI.2.2.2.2 | (unfold vp_in; decide) | exact Or.inr (by assumption) | exact cof_mem hI | (intro a h; cases h; assumption) | exact (hI.2.1 _ (by assumption)).1) (by first | assumption | exact hI.2.2.2.1 | exact hI.2.2.2.2 | (unfold vp_in; decide) | exact Or.inr (by assumption) | exact cof_mem hI | (intro a h; cases h; assumption) | exact (hI.2.1 _ (by assumption)).1)) (cwV 1 hts gV_S_217 rfl rfl rfl (by decide +kernel) ⟨Nat.le_of_ble_eq_true rfl, Nat.le_of_ble_eq_true rfl⟩) h0 hw 0 rfl rfl rfl rfl hl.1 rfl (Nat.le_of_ble_eq_true rfl) d_S_isValidForIdHolder_47 ⟨Nat.le_of_ble_eq_true rfl, Nat.le_of_ble_eq_true rfl⟩ (fun H locs hw => ?_)
          refine lv_if_eq (tgt := 57) hx hb d_S_isValidForIdHolder_50 (by decide) (fun c_50 => ?_) (fun c_50 => ?_)
          · refine lv_iconst (v := 0) hx hb d_S_isValidForIdHolder_57 (by decide) ?_
            exact z_iret (wf := fun _ : Unit => (wC ad G st ++ wr)) (u := ()) hx hb hr hlocks h0 hw rfl (by rw [f_isValidForIdHolder, e_16, oel_some, e_21, oel_some, if_pos c_33, if_neg c_41, if_pos c_50]) (Nat.le_of_ble_eq_true rfl) (Nat.le_of_ble_eq_true rfl) d_S_isValidForIdHolder_58
          · refine lv_iconst (v := 1) hx hb d_S_isValidForIdHolder_53 (by decide) ?_
            refine lv_goto (tgt := 58) hx hb d_S_isValidForIdHolder_54 (by decide) ?_
            exact z_iret (wf := fun _ : Unit => (wC ad G st ++ wr)) (u := ()) hx hb hr hlocks h0 hw rfl (by rw [f_isValidForIdHolder, e_16, oel_some, e_21, oel_some, if_pos c_33, if_neg c_41, if_neg c_50]) (Nat.le_of_ble_eq_true rfl) (Nat.le_of_ble_eq_true rfl) d_S_isValidForIdHolder_58
set_option maxHeartbeats 4000000 in
set_option maxRecDepth 100000 in
theorem c_S_isGood (l : Launch) (G : gG) (ad : Nat → Nat) (st : CS) (wr : va_W) (sz : Nat) (p1 : Int32) (hI : InvC st) (hp1 : tokOK p1) : Met l y_S_isGood w_S_isGood { frames := 3, cells := 0, slots := 0, locals := 72 } (va_Pc [.ref (ad 0), .int p1] (z_pre G (wC ad G st ++ wr) sz)) (z_Qi0 G (wC ad G st ++ wr) sz (wC ad G st ++ wr) (f_isGood st p1)) 0 0 (va_A (wC ad G st ++ wr) sz) := by
  refine Met.ofW (cc := b_S_isGood) (maxL := 2) (ret := (some .boolean)) (by decide) rfl ?_
  intro p e s m args below meth c s₁ B hml hv
  obtain ⟨rfl, hsz, hP, hK, hD0, ham⟩ := hv
  subst hsz
  have hx := B.exec
  have hb := B.bytes
  have hr := B.returns
  have hts : ∀ w ∈ goT, w.before _ s = true := fun w h => atoms_spec (ws := w_S_isGood) B.pre w (List.mem_cons_of_mem _ h)
  have hg : ∀ w, goB w = true → w.before _ s = true := fun w h => hts w (goI h)
  have hown : s.vm.findClass R_S = some m.cls := findClass_of_methodNamed B.named
  have hlocks := B.notSynchronized
  have h0 : z_st G (wC ad G st ++ wr) s := ⟨hK, ham⟩
  have hw : z_wl G (wC ad G st ++ wr) s (wC ad G st ++ wr) s.heap [] := z_0 hP hD0
  have hl := lv_entry ([.ref (ad 0), .int p1]) (n := 2) (Nat.le_of_ble_eq_true rfl)
  rw [lg_entry_eq]
  generalize (lg_sl ([.ref (ad 0), .int p1]) ++ List.replicate (2 - (lg_sl ([.ref (ad 0), .int p1])).length) Slot.unset).toArray = ls at hl ⊢
  have hl : lv_has ls 2 [(0, .ref (ad 0)), (1, .int p1)] := hl
  refine lv_aload_n hx hb d_S_isGood_0 rfl (lv_at hl 0 rfl) ?_
  refine lv_iload_n hx hb d_S_isGood_1 rfl (lv_at hl 1 rfl) ?_
  refine lv_iconst (v := 1) hx hb d_S_isGood_2 (by decide) ?_
  refine z_Vi0 (As := [.int p1, .int 1]) (v := (f_isValidForIdHolder st p1 1)) ⟨hx, hb, hml, hown, hts⟩ (c_S_isValidForIdHolder l G ad st wr _ p1 1 (by first | assumption | exact hI.2.2.2.1 | exact hI.2.2.2.2 | (unfold vp_in; decide) | exact Or.inr (by assumption) | exact cof_mem hI | (intro a h; cases h; assumption) | exact (hI.2.1 _ (by assumption)).1) (by first | assumption | exact hI.2.2.2.1 | exact hI.2.2.2.2 | (unfold vp_in; decide) | exact Or.inr (by assumption) | exact cof_mem hI | (intro a h; cases h; assumption) | exact (hI.2.1 _ (by assumption)).1) (by first | assumption | exact hI.2.2.2.1 | exact hI.2.2.2.2 | (unfold vp_in; decide) | exact Or.inr (by assumption) | exact cof_mem hI | (intro a h; cases h; assumption) | exact (hI.2.1 _ (by assumption)).1)) (cwV 2 hts gV_S_243 rfl rfl rfl (by decide +kernel) ⟨Nat.le_of_ble_eq_true rfl, Nat.le_of_ble_eq_true rfl⟩) h0 hw 0 rfl rfl rfl rfl hl.1 rfl (Nat.le_of_ble_eq_true rfl) d_S_isGood_3 ⟨Nat.le_of_ble_eq_true rfl, Nat.le_of_ble_eq_true rfl⟩ (fun H locs hw => ?_)
  refine lv_if_eq (tgt := 22) hx hb d_S_isGood_6 (by decide) (fun c_6 => ?_) (fun c_6 => ?_)
  · refine lv_iconst (v := 0) hx hb d_S_isGood_22 (by decide) ?_
    exact z_iret (wf := fun _ : Unit => (wC ad G st ++ wr)) (u := ()) hx hb hr hlocks h0 hw rfl (by rw [f_isGood, if_pos c_6]) (Nat.le_of_ble_eq_true rfl) (Nat.le_of_ble_eq_true rfl) d_S_isGood_23
  · refine lv_aload_n hx hb d_S_isGood_9 rfl (lv_at hl 0 rfl) ?_
    refine lv_iload_n hx hb d_S_isGood_10 rfl (lv_at hl 1 rfl) ?_
    refine lv_iconst (v := 2) hx hb d_S_isGood_11 (by decide) ?_
    refine z_Vi0 (As := [.int p1, .int 2]) (v := (f_isValidForIdHolder st p1 2)) ⟨hx, hb, hml, hown, hts⟩ (c_S_isValidForIdHolder l G ad st wr _ p1 2 (by first | assumption | exact hI.2.2.2.1 | exact hI.2.2.2.2 | (unfold vp_in; decide) | exact Or.inr (by assumption) | exact cof_mem hI | (intro a h; cases h; assumption) | exact (hI.2.1 _ (by assumption)).1) (by first | assumption | exact hI.2.2.2.1 | exact hI.2.2.2.2 | (unfold vp_in; decide) | exact Or.inr (by assumption) | exact cof_mem hI | (intro a h; cases h; assumption) | exact (hI.2.1 _ (by assumption)).1) (by first | assumption | exact hI.2.2.2.1 | exact hI.2.2.2.2 | (unfold vp_in; decide) | exact Or.inr (by assumption) | exact cof_mem hI | (intro a h; cases h; assumption) | exact (hI.2.1 _ (by assumption)).1)) (cwV 2 hts gV_S_243 rfl rfl rfl (by decide +kernel) ⟨Nat.le_of_ble_eq_true rfl, Nat.le_of_ble_eq_true rfl⟩) h0 hw 0 rfl rfl rfl rfl hl.1 rfl (Nat.le_of_ble_eq_true rfl) d_S_isGood_12 ⟨Nat.le_of_ble_eq_true rfl, Nat.le_of_ble_eq_true rfl⟩ (fun H locs hw => ?_)
    refine lv_if_eq (tgt := 22) hx hb d_S_isGood_15 (by decide) (fun c_15 => ?_) (fun c_15 => ?_)
    · refine lv_iconst (v := 0) hx hb d_S_isGood_22 (by decide) ?_
      exact z_iret (wf := fun _ : Unit => (wC ad G st ++ wr)) (u := ()) hx hb hr hlocks h0 hw rfl (by rw [f_isGood, if_neg c_6, if_pos c_15]) (Nat.le_of_ble_eq_true rfl) (Nat.le_of_ble_eq_true rfl) d_S_isGood_23
    · refine lv_iconst (v := 1) hx hb d_S_isGood_18 (by decide) ?_
      refine lv_goto (tgt := 23) hx hb d_S_isGood_19 (by decide) ?_
      exact z_iret (wf := fun _ : Unit => (wC ad G st ++ wr)) (u := ()) hx hb hr hlocks h0 hw rfl (by rw [f_isGood, if_neg c_6, if_neg c_15]) (Nat.le_of_ble_eq_true rfl) (Nat.le_of_ble_eq_true rfl) d_S_isGood_23
set_option maxHeartbeats 4000000 in
set_option maxRecDepth 100000 in
theorem c_S_isAuthorised (l : Launch) (G : gG) (ad : Nat → Nat) (st : CS) (wr : va_W) (sz : Nat) (p1 : Int32) (hI : InvC st) (hp1 : tokOK p1) : Met l y_S_isAuthorised w_S_isAuthorised { frames := 3, cells := 0, slots := 0, locals := 72 } (va_Pc [.ref (ad 0), .int p1] (z_pre G (wC ad G st ++ wr) sz)) (z_Qi0 G (wC ad G st ++ wr) sz (wC ad G st ++ wr) (f_isAuthorised st p1)) 0 0 (va_A (wC ad G st ++ wr) sz) := by
  refine Met.ofW (cc := b_S_isAuthorised) (maxL := 2) (ret := (some .boolean)) (by decide) rfl ?_
  intro p e s m args below meth c s₁ B hml hv
  obtain ⟨rfl, hsz, hP, hK, hD0, ham⟩ := hv
  subst hsz
  have hx := B.exec
  have hb := B.bytes
  have hr := B.returns
  have hts : ∀ w ∈ goT, w.before _ s = true := fun w h => atoms_spec (ws := w_S_isAuthorised) B.pre w (List.mem_cons_of_mem _ h)
  have hg : ∀ w, goB w = true → w.before _ s = true := fun w h => hts w (goI h)
  have hown : s.vm.findClass R_S = some m.cls := findClass_of_methodNamed B.named
  have hlocks := B.notSynchronized
  have h0 : z_st G (wC ad G st ++ wr) s := ⟨hK, ham⟩
  have hw : z_wl G (wC ad G st ++ wr) s (wC ad G st ++ wr) s.heap [] := z_0 hP hD0
  have hl := lv_entry ([.ref (ad 0), .int p1]) (n := 2) (Nat.le_of_ble_eq_true rfl)
  rw [lg_entry_eq]
  generalize (lg_sl ([.ref (ad 0), .int p1]) ++ List.replicate (2 - (lg_sl ([.ref (ad 0), .int p1])).length) Slot.unset).toArray = ls at hl ⊢
  have hl : lv_has ls 2 [(0, .ref (ad 0)), (1, .int p1)] := hl
  refine lv_aload_n hx hb d_S_isAuthorised_0 rfl (lv_at hl 0 rfl) ?_
  refine lv_iload_n hx hb d_S_isAuthorised_1 rfl (lv_at hl 1 rfl) ?_
  refine lv_iconst (v := 3) hx hb d_S_isAuthorised_2 (by decide) ?_
  refine z_Vi0 (As := [.int p1, .int 3]) (v := (f_isValidForIdHolder st p1 3)) ⟨hx, hb, hml, hown, hts⟩ (c_S_isValidForIdHolder l G ad st wr _ p1 3 (by first | assumption | exact hI.2.2.2.1 | exact hI.2.2.2.2 | (unfold vp_in; decide) | exact Or.inr (by assumption) | exact cof_mem hI | (intro a h; cases h; assumption) | exact (hI.2.1 _ (by assumption)).1) (by first | assumption | exact hI.2.2.2.1 | exact hI.2.2.2.2 | (unfold vp_in; decide) | exact Or.inr (by assumption) | exact cof_mem hI | (intro a h; cases h; assumption) | exact (hI.2.1 _ (by assumption)).1) (by first | assumption | exact hI.2.2.2.1 | exact hI.2.2.2.2 | (unfold vp_in; decide) | exact Or.inr (by assumption) | exact cof_mem hI | (intro a h; cases h; assumption) | exact (hI.2.1 _ (by assumption)).1)) (cwV 2 hts gV_S_243 rfl rfl rfl (by decide +kernel) ⟨Nat.le_of_ble_eq_true rfl, Nat.le_of_ble_eq_true rfl⟩) h0 hw 0 rfl rfl rfl rfl hl.1 rfl (Nat.le_of_ble_eq_true rfl) d_S_isAuthorised_3 ⟨Nat.le_of_ble_eq_true rfl, Nat.le_of_ble_eq_true rfl⟩ (fun H locs hw => ?_)
  exact z_iret (wf := fun _ : Unit => (wC ad G st ++ wr)) (u := ()) hx hb hr hlocks h0 hw (z_nb vfh_01) (by rw [f_isAuthorised]) (Nat.le_of_ble_eq_true rfl) (Nat.le_of_ble_eq_true rfl) d_S_isAuthorised_6
set_option maxHeartbeats 4000000 in
set_option maxRecDepth 100000 in
theorem c_S_authorisedRole (l : Launch) (G : gG) (ad : Nat → Nat) (st : CS) (wr : va_W) (sz : Nat) (p1 : Int32) (hI : InvC st) (hp1 : tokOK p1) : Met l y_S_authorisedRole w_S_authorisedRole { frames := 1, cells := 0, slots := 0, locals := 22 } (va_Pc [.ref (ad 0), .int p1] (z_pre G (wC ad G st ++ wr) sz)) (z_Qi0 G (wC ad G st ++ wr) sz (wC ad G st ++ wr) (f_authorisedRole st p1)) 0 0 (va_A (wC ad G st ++ wr) sz) := by
  refine Met.ofW (cc := b_S_authorisedRole) (maxL := 3) (ret := (some .int)) (by decide) rfl ?_
  intro p e s m args below meth c s₁ B hml hv
  obtain ⟨rfl, hsz, hP, hK, hD0, ham⟩ := hv
  subst hsz
  have hx := B.exec
  have hb := B.bytes
  have hr := B.returns
  have hts : ∀ w ∈ goT, w.before _ s = true := fun w h => atoms_spec (ws := w_S_authorisedRole) B.pre w (List.mem_cons_of_mem _ h)
  have hg : ∀ w, goB w = true → w.before _ s = true := fun w h => hts w (goI h)
  have hown : s.vm.findClass R_S = some m.cls := findClass_of_methodNamed B.named
  have hlocks := B.notSynchronized
  have h0 : z_st G (wC ad G st ++ wr) s := ⟨hK, ham⟩
  have hw : z_wl G (wC ad G st ++ wr) s (wC ad G st ++ wr) s.heap [] := z_0 hP hD0
  have hl := lv_entry ([.ref (ad 0), .int p1]) (n := 3) (Nat.le_of_ble_eq_true rfl)
  rw [lg_entry_eq]
  generalize (lg_sl ([.ref (ad 0), .int p1]) ++ List.replicate (3 - (lg_sl ([.ref (ad 0), .int p1])).length) Slot.unset).toArray = ls at hl ⊢
  have hl : lv_has ls 3 [(0, .ref (ad 0)), (1, .int p1)] := hl
  refine lv_aload_n hx hb d_S_authorisedRole_0 rfl (lv_at hl 0 rfl) ?_
  refine lv_iload_n hx hb d_S_authorisedRole_1 rfl (lv_at hl 1 rfl) ?_
  refine lv_iconst (v := 3) hx hb d_S_authorisedRole_2 (by decide) ?_
  refine z_Vq0 (As := [.int p1, .int 3]) (v := (f_certificateOf st p1 3)) ⟨hx, hb, hml, hown, hts⟩ (c_S_certificateOf l G ad st wr _ p1 3 (by first | assumption | exact hI.2.2.2.1 | exact hI.2.2.2.2 | (unfold vp_in; decide) | exact Or.inr (by assumption) | exact cof_mem hI | (intro a h; cases h; assumption) | exact (hI.2.1 _ (by assumption)).1) (by first | assumption | exact hI.2.2.2.1 | exact hI.2.2.2.2 | (unfold vp_in; decide) | exact Or.inr (by assumption) | exact cof_mem hI | (intro a h; cases h; assumption) | exact (hI.2.1 _ (by assumption)).1)) (cwV 2 hts gV_S_76 rfl rfl rfl (by decide +kernel) ⟨Nat.le_of_ble_eq_true rfl, Nat.le_of_ble_eq_true rfl⟩) h0 hw 0 rfl rfl rfl rfl hl.1 rfl (Nat.le_of_ble_eq_true rfl) d_S_authorisedRole_3 ⟨Nat.le_of_ble_eq_true rfl, Nat.le_of_ble_eq_true rfl⟩ (fun H locs hw => ?_)
  refine z_astore_n (r := (f_certificateOf st p1 3)) (lv' := [(2, va_rf (f_certificateOf st p1 3)), (0, .ref (ad 0)), (1, .int p1)]) hx hb d_S_authorisedRole_6 rfl hl (by decide) rfl (fun ls hl => ?_)
  refine z_aload_n (r := (f_certificateOf st p1 3)) hx hb d_S_authorisedRole_7 rfl (lv_at hl 0 rfl) ?_
  refine z_ifnonnull (r := (f_certificateOf st p1 3)) (tgt := 15) hx hb d_S_authorisedRole_8 (by decide) (fun e_8 => ?_) (fun a_8 e_8 => ?_)
  · have hl : lv_has ls 3 [(2, .null), (0, .ref (ad 0)), (1, .int p1)] := by rw [e_8] at hl; exact hl
    refine lv_iconst (v := 0) hx hb d_S_authorisedRole_11 (by decide) ?_
    refine lv_goto (tgt := 19) hx hb d_S_authorisedRole_12 (by decide) ?_
    exact z_iret (wf := fun _ : Unit => (wC ad G st ++ wr)) (u := ()) hx hb hr hlocks h0 hw rfl (by rw [f_authorisedRole, e_8, oel_none]) (Nat.le_of_ble_eq_true rfl) (Nat.le_of_ble_eq_true rfl) d_S_authorisedRole_19
  · have hl : lv_has ls 3 [(2, .ref a_8), (0, .ref (ad 0)), (1, .int p1)] := by rw [e_8] at hl; exact hl
    have hm_a_8 : a_8 ∈ st.2.2.2.1 := cof_mem hI _ e_8
    refine lv_aload_n hx hb d_S_authorisedRole_15 rfl (lv_at hl 0 rfl) ?_
    obtain ⟨k_16, hk_16⟩ := z_pool (ad := ad) (G := G) (wr := wr) (st := st) hm_a_8
    refine z_Vi0 (As := []) (v := (f_role (st.2.2.2.2 a_8))) ⟨hx, hb, hml, hown, hts⟩ (c_C_role l G (wC ad G st ++ wr) _ a_8 k_16 (st.2.2.2.2 a_8) hk_16) (cwV 0 hts gV_S_246 rfl rfl rfl (by decide +kernel) ⟨Nat.le_of_ble_eq_true rfl, Nat.le_of_ble_eq_true rfl⟩) h0 hw k_16 hk_16 rfl rfl rfl hl.1 rfl (Nat.le_of_ble_eq_true rfl) d_S_authorisedRole_16 ⟨Nat.le_of_ble_eq_true rfl, Nat.le_of_ble_eq_true rfl⟩ (fun H locs hw => ?_)
    exact z_iret (wf := fun _ : Unit => (wC ad G st ++ wr)) (u := ()) hx hb hr hlocks h0 hw rfl (by rw [f_authorisedRole, e_8, oel_some]) (Nat.le_of_ble_eq_true rfl) (Nat.le_of_ble_eq_true rfl) d_S_authorisedRole_19
end CON
