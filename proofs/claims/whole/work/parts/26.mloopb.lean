section MLC
set_option maxHeartbeats 4000000 in
set_option maxRecDepth 100000 in
theorem c_M_log (l : Launch) (G : gG) (bd : Nat → Nat) (st : MS) (wr : va_W) (sz : Nat) (p1 : Int32) (p2 : Int32) (hI : InvM st) : Met l y_M_log w_M_log { frames := 0, cells := 0, slots := 0, locals := 0 } (va_Pc [.ref (bd 0), .int p1, .int p2] (z_pre G (wM bd G st ++ wr) sz)) (z_Qv0 G (wM bd G st ++ wr) sz (wM bd G (m_log st p1 p2) ++ wr)) 0 0 (va_A (wM bd G st ++ wr) sz) := by
  refine Met.ofW (cc := b_M_log) (maxL := 4) (ret := none) (by decide) rfl ?_
  intro p e s m args below meth c s₁ B hml hv
  obtain ⟨rfl, hsz, hP, hK, hD0, ham⟩ := hv
  subst hsz
  have hx := B.exec
  have hb := B.bytes
  have hr := B.returns
  have hts : ∀ w ∈ goT, w.before _ s = true := fun w h => atoms_spec (ws := w_M_log) B.pre w (List.mem_cons_of_mem _ h)
  have hg : ∀ w, goB w = true → w.before _ s = true := fun w h => hts w (goI h)
  have hown : s.vm.findClass R_M = some m.cls := findClass_of_methodNamed B.named
  have hlocks := B.notSynchronized
  have h0 : z_st G (wM bd G st ++ wr) s := ⟨hK, ham⟩
  have hw : z_wl G (wM bd G st ++ wr) s (wM bd G st ++ wr) s.heap [] := z_0 hP hD0
  have hl := lv_entry ([.ref (bd 0), .int p1, .int p2]) (n := 4) (Nat.le_of_ble_eq_true rfl)
  rw [lg_entry_eq]
  generalize (lg_sl ([.ref (bd 0), .int p1, .int p2]) ++ List.replicate (4 - (lg_sl ([.ref (bd 0), .int p1, .int p2])).length) Slot.unset).toArray = ls at hl ⊢
  have hl : lv_has ls 4 [(0, .ref (bd 0)), (1, .int p1), (2, .int p2)] := hl
  have loop : (∀ (H : Heap) (locs : List Loc), z_wl G (wM bd G st ++ wr) s (wM bd G (m_shift st 12) ++ wr) H locs → ∀ (ls : Array Slot), lv_has ls 4 [(3, .int (nI (12 + 4))), (0, .ref (bd 0)), (1, .int p1), (2, .int p2)] → W p l e (headSpec w_M_log { frames := 0, cells := 0, slots := 0, locals := 0 }).room s m #[.ref (bd 0), .int p1, .int p2] below meth c H locs 0 0 (MQ below (z_Qv0 G (wM bd G st ++ wr) s.heap.size (wM bd G (m_log st p1 p2) ++ wr)) #[.ref (bd 0), .int p1, .int p2] s 0 0 (va_A (wM bd G st ++ wr) s.heap.size)) (F0 m 65 ls [])) → ∀ (n i : Nat) (S9 : MS), S9 = m_shift st i → i ≤ 12 → 13 ≤ i + n → ∀ (H : Heap) (locs : List Loc), z_wl G (wM bd G st ++ wr) s (wM bd G S9 ++ wr) H locs → ∀ (ls : Array Slot), lv_has ls 4 [(3, .int (nI (i + 4))), (0, .ref (bd 0)), (1, .int p1), (2, .int p2)] → W p l e (headSpec w_M_log { frames := 0, cells := 0, slots := 0, locals := 0 }).room s m #[.ref (bd 0), .int p1, .int p2] below meth c H locs 0 0 (MQ below (z_Qv0 G (wM bd G st ++ wr) s.heap.size (wM bd G (m_log st p1 p2) ++ wr)) #[.ref (bd 0), .int p1, .int p2] s 0 0 (va_A (wM bd G st ++ wr) s.heap.size)) (F0 m 11 ls []) := by
    intro kk n
    induction n with
    | zero => intro i S9 eS h1 h2; exact absurd h2 (by omega)
    | succ n ih =>
      intro i S9 eS h1 h2 H locs hw ls hl
      refine lv_iload_n hx hb d_M_log_11 rfl (lv_at hl 0 rfl) ?_
      refine lv_bipush (v := 16) hx hb d_M_log_12 (by decide) ?_
      refine lv_icmp_ge (tgt := 65) hx hb d_M_log_14 (by decide) (fun c_14 => ?_) (fun c_14 => ?_)
      · have hi : i = 12 := by have h9 := (nI_leI (by decide) (by omega)).mp (show nI 16 ≤ nI (i + 4) from c_14); omega
        subst hi
        rw [eS] at hw
        exact kk H locs hw ls hl
      · have hi : i + 4 < 16 := (nI_ltI (by omega) (by decide)).mp (show nI (i + 4) < nI 16 from Int32.not_le.mp c_14)
        have hk : vp_in (nI (i + 4)) 16 := vp_in_nI hi (by decide)
        have hk4 : vp_in ((nI (i + 4)) - 4) 16 := by rw [show (4 : Int32) = nI 4 from rfl, pk_sub (by omega)]; exact vp_in_nI (by omega) (by decide)
        refine lv_aload_n hx hb d_M_log_17 rfl (lv_at hl 1 rfl) ?_
        refine va_get (D := G.1) (ci := 3) (v := .ref (bd 20)) (C := R_M) (T := T_M) (N := 25) hx hb hts in_M hown h0.1 hw.1 0 rfl rfl 20 (by decide) (hg (.fieldLink R_M 45 "SecureEntryModel" "logKind" "[I") (by decide +kernel)) (fun _ h9 => h9) rfl d_M_log_18 ?_
        refine lv_iload_n hx hb d_M_log_21 rfl (lv_at hl 0 rfl) ?_
        refine lv_iconst (v := 4) hx hb d_M_log_22 (by decide) ?_
        refine lv_isub hx hb d_M_log_23 ?_
        refine lv_aload_n hx hb d_M_log_24 rfl (lv_at hl 1 rfl) ?_
        refine va_get (D := G.1) (ci := 3) (v := .ref (bd 20)) (C := R_M) (T := T_M) (N := 25) hx hb hts in_M hown h0.1 hw.1 0 rfl rfl 20 (by decide) (hg (.fieldLink R_M 45 "SecureEntryModel" "logKind" "[I") (by decide +kernel)) (fun _ h9 => h9) rfl d_M_log_25 ?_
        refine lv_iload_n hx hb d_M_log_28 rfl (lv_at hl 0 rfl) ?_
        refine va_iald (f := (S9.2 20)) hx hb h0.1 hw.1 10 0 rfl rfl hk d_M_log_29 ?_
        refine va_iast hx hb h0.1 hw.1 hw.2.1 hw.2.2 10 0 rfl rfl hk4 d_M_log_30 (fun H locs hP hD hS => ?_)
        have hw : z_wl G (wM bd G st ++ wr) s (wM bd G (mA S9 20 (upd (S9.2 20) ((nI (i + 4)) - 4).toNatClampNeg ((S9.2 20) (nI (i + 4)).toNatClampNeg))) ++ wr) H locs := ⟨hP, hD, hS⟩
        refine lv_aload_n hx hb d_M_log_31 rfl (lv_at hl 1 rfl) ?_
        refine va_get (D := G.1) (ci := 3) (v := .ref (bd 21)) (C := R_M) (T := T_M) (N := 25) hx hb hts in_M hown h0.1 hw.1 0 rfl rfl 21 (by decide) (hg (.fieldLink R_M 48 "SecureEntryModel" "logTime" "[I") (by decide +kernel)) (fun _ h9 => h9) rfl d_M_log_32 ?_
        refine lv_iload_n hx hb d_M_log_35 rfl (lv_at hl 0 rfl) ?_
        refine lv_iconst (v := 4) hx hb d_M_log_36 (by decide) ?_
        refine lv_isub hx hb d_M_log_37 ?_
        refine lv_aload_n hx hb d_M_log_38 rfl (lv_at hl 1 rfl) ?_
        refine va_get (D := G.1) (ci := 3) (v := .ref (bd 21)) (C := R_M) (T := T_M) (N := 25) hx hb hts in_M hown h0.1 hw.1 0 rfl rfl 21 (by decide) (hg (.fieldLink R_M 48 "SecureEntryModel" "logTime" "[I") (by decide +kernel)) (fun _ h9 => h9) rfl d_M_log_39 ?_
        refine lv_iload_n hx hb d_M_log_42 rfl (lv_at hl 0 rfl) ?_
        refine va_iald (f := (S9.2 21)) hx hb h0.1 hw.1 11 0 rfl rfl hk d_M_log_43 ?_
        refine va_iast hx hb h0.1 hw.1 hw.2.1 hw.2.2 11 0 rfl rfl hk4 d_M_log_44 (fun H locs hP hD hS => ?_)
        have hw : z_wl G (wM bd G st ++ wr) s (wM bd G (mA (mA S9 20 (upd (S9.2 20) ((nI (i + 4)) - 4).toNatClampNeg ((S9.2 20) (nI (i + 4)).toNatClampNeg))) 21 (upd (S9.2 21) ((nI (i + 4)) - 4).toNatClampNeg ((S9.2 21) (nI (i + 4)).toNatClampNeg))) ++ wr) H locs := ⟨hP, hD, hS⟩
        refine lv_aload_n hx hb d_M_log_45 rfl (lv_at hl 1 rfl) ?_
        refine va_get (D := G.1) (ci := 3) (v := .ref (bd 22)) (C := R_M) (T := T_M) (N := 25) hx hb hts in_M hown h0.1 hw.1 0 rfl rfl 22 (by decide) (hg (.fieldLink R_M 51 "SecureEntryModel" "logHolder" "[I") (by decide +kernel)) (fun _ h9 => h9) rfl d_M_log_46 ?_
        refine lv_iload_n hx hb d_M_log_49 rfl (lv_at hl 0 rfl) ?_
        refine lv_iconst (v := 4) hx hb d_M_log_50 (by decide) ?_
        refine lv_isub hx hb d_M_log_51 ?_
        refine lv_aload_n hx hb d_M_log_52 rfl (lv_at hl 1 rfl) ?_
        refine va_get (D := G.1) (ci := 3) (v := .ref (bd 22)) (C := R_M) (T := T_M) (N := 25) hx hb hts in_M hown h0.1 hw.1 0 rfl rfl 22 (by decide) (hg (.fieldLink R_M 51 "SecureEntryModel" "logHolder" "[I") (by decide +kernel)) (fun _ h9 => h9) rfl d_M_log_53 ?_
        refine lv_iload_n hx hb d_M_log_56 rfl (lv_at hl 0 rfl) ?_
        refine va_iald (f := (S9.2 22)) hx hb h0.1 hw.1 12 0 rfl rfl hk d_M_log_57 ?_
        refine va_iast hx hb h0.1 hw.1 hw.2.1 hw.2.2 12 0 rfl rfl hk4 d_M_log_58 (fun H locs hP hD hS => ?_)
        have hw : z_wl G (wM bd G st ++ wr) s (wM bd G (mA (mA (mA S9 20 (upd (S9.2 20) ((nI (i + 4)) - 4).toNatClampNeg ((S9.2 20) (nI (i + 4)).toNatClampNeg))) 21 (upd (S9.2 21) ((nI (i + 4)) - 4).toNatClampNeg ((S9.2 21) (nI (i + 4)).toNatClampNeg))) 22 (upd (S9.2 22) ((nI (i + 4)) - 4).toNatClampNeg ((S9.2 22) (nI (i + 4)).toNatClampNeg))) ++ wr) H locs := ⟨hP, hD, hS⟩
        refine lv_iinc (v := ((nI (i + 4)) + 1)) (lv' := [(3, .int ((nI (i + 4)) + 1)), (0, .ref (bd 0)), (1, .int p1), (2, .int p2)]) hx hb d_M_log_59 hl (k := 0) rfl rfl (by decide) rfl (fun ls hl => ?_)
        refine lv_goto (tgt := 11) hx hb d_M_log_62 (by decide) ?_
        have hl := lv_sub hl [0, 1, 2, 3] rfl
        have hw : z_wl G (wM bd G st ++ wr) s (wM bd G (m_sh1 S9 (nI (i + 4))) ++ wr) H locs := by rw [m_sh1]; exact hw
        exact ih (i + 1) (m_sh1 S9 (nI (i + 4))) (by rw [m_shift, eS]) (by omega) (by omega) H locs hw ls (by rw [show i + 1 + 4 = (i + 4) + 1 by omega, ← nI_1]; exact hl)
  refine lv_aload_n hx hb d_M_log_0 rfl (lv_at hl 0 rfl) ?_
  refine va_get (D := G.1) (ci := 3) (v := .int (st.1 23)) (C := R_M) (T := T_M) (N := 25) hx hb hts in_M hown h0.1 hw.1 0 rfl rfl 23 (by decide) (hg (.fieldLink R_M 103 "SecureEntryModel" "logged" "I") (by decide +kernel)) (fun _ h9 => h9) rfl d_M_log_1 ?_
  refine lv_bipush (v := 16) hx hb d_M_log_4 (by decide) ?_
  refine lv_icmp_ne (tgt := 76) hx hb d_M_log_6 (by decide) (fun c_6 => ?_) (fun c_6 => ?_)
  · refine lv_aload_n hx hb d_M_log_76 rfl (lv_at hl 0 rfl) ?_
    refine va_get (D := G.1) (ci := 3) (v := .ref (bd 20)) (C := R_M) (T := T_M) (N := 25) hx hb hts in_M hown h0.1 hw.1 0 rfl rfl 20 (by decide) (hg (.fieldLink R_M 45 "SecureEntryModel" "logKind" "[I") (by decide +kernel)) (fun _ h9 => h9) rfl d_M_log_77 ?_
    refine lv_aload_n hx hb d_M_log_80 rfl (lv_at hl 0 rfl) ?_
    refine va_get (D := G.1) (ci := 3) (v := .int (st.1 23)) (C := R_M) (T := T_M) (N := 25) hx hb hts in_M hown h0.1 hw.1 0 rfl rfl 23 (by decide) (hg (.fieldLink R_M 103 "SecureEntryModel" "logged" "I") (by decide +kernel)) (fun _ h9 => h9) rfl d_M_log_81 ?_
    refine lv_iload_n hx hb d_M_log_84 rfl (lv_at hl 1 rfl) ?_
    refine va_iast hx hb h0.1 hw.1 hw.2.1 hw.2.2 10 0 rfl rfl (by first | exact z_wsM hI.2.1 c_6 | (unfold vp_in; decide)) d_M_log_85 (fun H locs hP hD hS => ?_)
    have hI : InvM (mA st 20 (upd (st.2 20) (st.1 23).toNatClampNeg p1)) := invm_mA hI (by decide)
    have hw : z_wl G (wM bd G st ++ wr) s (wM bd G (mA st 20 (upd (st.2 20) (st.1 23).toNatClampNeg p1)) ++ wr) H locs := ⟨hP, hD, hS⟩
    refine lv_aload_n hx hb d_M_log_86 rfl (lv_at hl 0 rfl) ?_
    refine va_get (D := G.1) (ci := 3) (v := .ref (bd 21)) (C := R_M) (T := T_M) (N := 25) hx hb hts in_M hown h0.1 hw.1 0 rfl rfl 21 (by decide) (hg (.fieldLink R_M 48 "SecureEntryModel" "logTime" "[I") (by decide +kernel)) (fun _ h9 => h9) rfl d_M_log_87 ?_
    refine lv_aload_n hx hb d_M_log_90 rfl (lv_at hl 0 rfl) ?_
    refine va_get (D := G.1) (ci := 3) (v := .int (st.1 23)) (C := R_M) (T := T_M) (N := 25) hx hb hts in_M hown h0.1 hw.1 0 rfl rfl 23 (by decide) (hg (.fieldLink R_M 103 "SecureEntryModel" "logged" "I") (by decide +kernel)) (fun _ h9 => h9) rfl d_M_log_91 ?_
    refine lv_aload_n hx hb d_M_log_94 rfl (lv_at hl 0 rfl) ?_
    refine va_get (D := G.1) (ci := 3) (v := .int (st.1 1)) (C := R_M) (T := T_M) (N := 25) hx hb hts in_M hown h0.1 hw.1 0 rfl rfl 1 (by decide) (hg (.fieldLink R_M 93 "SecureEntryModel" "time" "I") (by decide +kernel)) (fun _ h9 => h9) rfl d_M_log_95 ?_
    refine va_iast hx hb h0.1 hw.1 hw.2.1 hw.2.2 11 0 rfl rfl (by first | exact z_wsM hI.2.1 c_6 | (unfold vp_in; decide)) d_M_log_98 (fun H locs hP hD hS => ?_)
    have hI : InvM (mA (mA st 20 (upd (st.2 20) (st.1 23).toNatClampNeg p1)) 21 (upd (st.2 21) (st.1 23).toNatClampNeg (st.1 1))) := invm_mA hI (by decide)
    have hw : z_wl G (wM bd G st ++ wr) s (wM bd G (mA (mA st 20 (upd (st.2 20) (st.1 23).toNatClampNeg p1)) 21 (upd (st.2 21) (st.1 23).toNatClampNeg (st.1 1))) ++ wr) H locs := ⟨hP, hD, hS⟩
    refine lv_aload_n hx hb d_M_log_99 rfl (lv_at hl 0 rfl) ?_
    refine va_get (D := G.1) (ci := 3) (v := .ref (bd 22)) (C := R_M) (T := T_M) (N := 25) hx hb hts in_M hown h0.1 hw.1 0 rfl rfl 22 (by decide) (hg (.fieldLink R_M 51 "SecureEntryModel" "logHolder" "[I") (by decide +kernel)) (fun _ h9 => h9) rfl d_M_log_100 ?_
    refine lv_aload_n hx hb d_M_log_103 rfl (lv_at hl 0 rfl) ?_
    refine va_get (D := G.1) (ci := 3) (v := .int (st.1 23)) (C := R_M) (T := T_M) (N := 25) hx hb hts in_M hown h0.1 hw.1 0 rfl rfl 23 (by decide) (hg (.fieldLink R_M 103 "SecureEntryModel" "logged" "I") (by decide +kernel)) (fun _ h9 => h9) rfl d_M_log_104 ?_
    refine lv_iload_n hx hb d_M_log_107 rfl (lv_at hl 2 rfl) ?_
    refine va_iast hx hb h0.1 hw.1 hw.2.1 hw.2.2 12 0 rfl rfl (by first | exact z_wsM hI.2.1 c_6 | (unfold vp_in; decide)) d_M_log_108 (fun H locs hP hD hS => ?_)
    have hI : InvM (mA (mA (mA st 20 (upd (st.2 20) (st.1 23).toNatClampNeg p1)) 21 (upd (st.2 21) (st.1 23).toNatClampNeg (st.1 1))) 22 (upd (st.2 22) (st.1 23).toNatClampNeg p2)) := invm_mA hI (by decide)
    have hw : z_wl G (wM bd G st ++ wr) s (wM bd G (mA (mA (mA st 20 (upd (st.2 20) (st.1 23).toNatClampNeg p1)) 21 (upd (st.2 21) (st.1 23).toNatClampNeg (st.1 1))) 22 (upd (st.2 22) (st.1 23).toNatClampNeg p2)) ++ wr) H locs := ⟨hP, hD, hS⟩
    refine lv_aload_n hx hb d_M_log_109 rfl (lv_at hl 0 rfl) ?_
    refine lv_dup hx hb d_M_log_110 rfl ?_
    refine va_get (D := G.1) (ci := 3) (v := .int (st.1 23)) (C := R_M) (T := T_M) (N := 25) hx hb hts in_M hown h0.1 hw.1 0 rfl rfl 23 (by decide) (hg (.fieldLink R_M 103 "SecureEntryModel" "logged" "I") (by decide +kernel)) (fun _ h9 => h9) rfl d_M_log_111 ?_
    refine lv_iconst (v := 1) hx hb d_M_log_114 (by decide) ?_
    refine lv_iadd hx hb d_M_log_115 ?_
    refine va_put (D := G.1) (ci := 3) (v := .int ((st.1 23) + 1)) (ty := .int) (C := R_M) (T := T_M) (N := 25) hx hb hts in_M ty_M ty_M_ok n_M hown h0.1 hw.1 hw.2.1 hw.2.2 0 rfl rfl 23 (by decide) (hg (.fieldLink R_M 103 "SecureEntryModel" "logged" "I") (by decide +kernel)) (fun _ h9 => h9) rfl (by decide +kernel) rfl rfl (Nat.le_of_ble_eq_true rfl) d_M_log_116 (fun H locs hP hD hS => ?_)
    have hw : z_wl G (wM bd G st ++ wr) s (wM bd G (mS (mA (mA (mA st 20 (upd (st.2 20) (st.1 23).toNatClampNeg p1)) 21 (upd (st.2 21) (st.1 23).toNatClampNeg (st.1 1))) 22 (upd (st.2 22) (st.1 23).toNatClampNeg p2)) 23 ((st.1 23) + 1)) ++ wr) H locs := ⟨hP, hD, hS⟩
    exact z_vret (wf := fun _ : Unit => (wM bd G (m_log st p1 p2) ++ wr)) (u := ()) hx hb hr hlocks h0 (by rw [m_log, if_neg c_6]; exact hw) trivial (Nat.le_of_ble_eq_true rfl) (Nat.le_of_ble_eq_true rfl) d_M_log_119
  · refine lv_iconst (v := 4) hx hb d_M_log_9 (by decide) ?_
    refine lv_istore_n (lv' := [(3, .int 4), (0, .ref (bd 0)), (1, .int p1), (2, .int p2)]) hx hb d_M_log_10 rfl hl (by decide) rfl (fun ls hl => ?_)
    refine loop (fun H locs hw ls hl => ?_) 13 0 st rfl (by decide) (by decide) _ _ hw ls hl
    have hI : InvM (m_shift st 12) := inv_m_shift hI 12
    obtain ⟨S8, eS⟩ : ∃ z, z = m_shift st 12 := ⟨_, rfl⟩
    rw [← eS] at hw hI
    refine lv_aload_n hx hb d_M_log_65 rfl (lv_at hl 1 rfl) ?_
    refine lv_bipush (v := 12) hx hb d_M_log_66 (by decide) ?_
    refine va_put (D := G.1) (ci := 3) (v := .int 12) (ty := .int) (C := R_M) (T := T_M) (N := 25) hx hb hts in_M ty_M ty_M_ok n_M hown h0.1 hw.1 hw.2.1 hw.2.2 0 rfl rfl 23 (by decide) (hg (.fieldLink R_M 103 "SecureEntryModel" "logged" "I") (by decide +kernel)) (fun _ h9 => h9) rfl (by decide +kernel) rfl rfl (Nat.le_of_ble_eq_true rfl) d_M_log_68 (fun H locs hP hD hS => ?_)
    have hI : InvM (mS S8 23 12) := invm_size hI (by (unfold vp_in; decide))
    have hw : z_wl G (wM bd G st ++ wr) s (wM bd G (mS S8 23 12) ++ wr) H locs := ⟨hP, hD, hS⟩
    refine lv_aload_n hx hb d_M_log_71 rfl (lv_at hl 1 rfl) ?_
    refine lv_iconst (v := 1) hx hb d_M_log_72 (by decide) ?_
    refine va_put (D := G.1) (ci := 3) (v := .int 1) (ty := .boolean) (C := R_M) (T := T_M) (N := 25) hx hb hts in_M ty_M ty_M_ok n_M hown h0.1 hw.1 hw.2.1 hw.2.2 0 rfl rfl 24 (by decide) (hg (.fieldLink R_M 106 "SecureEntryModel" "logAlarm" "Z") (by decide +kernel)) (fun _ h9 => h9) rfl (by decide +kernel) rfl rfl (Nat.le_of_ble_eq_true rfl) d_M_log_73 (fun H locs hP hD hS => ?_)
    have hI : InvM (mS (mS S8 23 12) 24 1) := invm_mS hI (by decide)
    have hw : z_wl G (wM bd G st ++ wr) s (wM bd G (mS (mS S8 23 12) 24 1) ++ wr) H locs := ⟨hP, hD, hS⟩
    refine lv_aload_n hx hb d_M_log_76 rfl (lv_at hl 1 rfl) ?_
    refine va_get (D := G.1) (ci := 3) (v := .ref (bd 20)) (C := R_M) (T := T_M) (N := 25) hx hb hts in_M hown h0.1 hw.1 0 rfl rfl 20 (by decide) (hg (.fieldLink R_M 45 "SecureEntryModel" "logKind" "[I") (by decide +kernel)) (fun _ h9 => h9) rfl d_M_log_77 ?_
    refine lv_aload_n hx hb d_M_log_80 rfl (lv_at hl 1 rfl) ?_
    refine va_get (D := G.1) (ci := 3) (v := .int 12) (C := R_M) (T := T_M) (N := 25) hx hb hts in_M hown h0.1 hw.1 0 rfl rfl 23 (by decide) (hg (.fieldLink R_M 103 "SecureEntryModel" "logged" "I") (by decide +kernel)) (fun _ h9 => h9) rfl d_M_log_81 ?_
    refine lv_iload_n hx hb d_M_log_84 rfl (lv_at hl 2 rfl) ?_
    refine va_iast hx hb h0.1 hw.1 hw.2.1 hw.2.2 10 0 rfl rfl (show vp_in 12 16 by unfold vp_in; decide) d_M_log_85 (fun H locs hP hD hS => ?_)
    have hI : InvM (mA (mS (mS S8 23 12) 24 1) 20 (upd (S8.2 20) (12 : Int32).toNatClampNeg p1)) := invm_mA hI (by decide)
    have hw : z_wl G (wM bd G st ++ wr) s (wM bd G (mA (mS (mS S8 23 12) 24 1) 20 (upd (S8.2 20) (12 : Int32).toNatClampNeg p1)) ++ wr) H locs := ⟨hP, hD, hS⟩
    refine lv_aload_n hx hb d_M_log_86 rfl (lv_at hl 1 rfl) ?_
    refine va_get (D := G.1) (ci := 3) (v := .ref (bd 21)) (C := R_M) (T := T_M) (N := 25) hx hb hts in_M hown h0.1 hw.1 0 rfl rfl 21 (by decide) (hg (.fieldLink R_M 48 "SecureEntryModel" "logTime" "[I") (by decide +kernel)) (fun _ h9 => h9) rfl d_M_log_87 ?_
    refine lv_aload_n hx hb d_M_log_90 rfl (lv_at hl 1 rfl) ?_
    refine va_get (D := G.1) (ci := 3) (v := .int 12) (C := R_M) (T := T_M) (N := 25) hx hb hts in_M hown h0.1 hw.1 0 rfl rfl 23 (by decide) (hg (.fieldLink R_M 103 "SecureEntryModel" "logged" "I") (by decide +kernel)) (fun _ h9 => h9) rfl d_M_log_91 ?_
    refine lv_aload_n hx hb d_M_log_94 rfl (lv_at hl 1 rfl) ?_
    refine va_get (D := G.1) (ci := 3) (v := .int (S8.1 1)) (C := R_M) (T := T_M) (N := 25) hx hb hts in_M hown h0.1 hw.1 0 rfl rfl 1 (by decide) (hg (.fieldLink R_M 93 "SecureEntryModel" "time" "I") (by decide +kernel)) (fun _ h9 => h9) rfl d_M_log_95 ?_
    refine va_iast hx hb h0.1 hw.1 hw.2.1 hw.2.2 11 0 rfl rfl (show vp_in 12 16 by unfold vp_in; decide) d_M_log_98 (fun H locs hP hD hS => ?_)
    have hI : InvM (mA (mA (mS (mS S8 23 12) 24 1) 20 (upd (S8.2 20) (12 : Int32).toNatClampNeg p1)) 21 (upd (S8.2 21) (12 : Int32).toNatClampNeg (S8.1 1))) := invm_mA hI (by decide)
    have hw : z_wl G (wM bd G st ++ wr) s (wM bd G (mA (mA (mS (mS S8 23 12) 24 1) 20 (upd (S8.2 20) (12 : Int32).toNatClampNeg p1)) 21 (upd (S8.2 21) (12 : Int32).toNatClampNeg (S8.1 1))) ++ wr) H locs := ⟨hP, hD, hS⟩
    refine lv_aload_n hx hb d_M_log_99 rfl (lv_at hl 1 rfl) ?_
    refine va_get (D := G.1) (ci := 3) (v := .ref (bd 22)) (C := R_M) (T := T_M) (N := 25) hx hb hts in_M hown h0.1 hw.1 0 rfl rfl 22 (by decide) (hg (.fieldLink R_M 51 "SecureEntryModel" "logHolder" "[I") (by decide +kernel)) (fun _ h9 => h9) rfl d_M_log_100 ?_
    refine lv_aload_n hx hb d_M_log_103 rfl (lv_at hl 1 rfl) ?_
    refine va_get (D := G.1) (ci := 3) (v := .int 12) (C := R_M) (T := T_M) (N := 25) hx hb hts in_M hown h0.1 hw.1 0 rfl rfl 23 (by decide) (hg (.fieldLink R_M 103 "SecureEntryModel" "logged" "I") (by decide +kernel)) (fun _ h9 => h9) rfl d_M_log_104 ?_
    refine lv_iload_n hx hb d_M_log_107 rfl (lv_at hl 3 rfl) ?_
    refine va_iast hx hb h0.1 hw.1 hw.2.1 hw.2.2 12 0 rfl rfl (show vp_in 12 16 by unfold vp_in; decide) d_M_log_108 (fun H locs hP hD hS => ?_)
    have hI : InvM (mA (mA (mA (mS (mS S8 23 12) 24 1) 20 (upd (S8.2 20) (12 : Int32).toNatClampNeg p1)) 21 (upd (S8.2 21) (12 : Int32).toNatClampNeg (S8.1 1))) 22 (upd (S8.2 22) (12 : Int32).toNatClampNeg p2)) := invm_mA hI (by decide)
    have hw : z_wl G (wM bd G st ++ wr) s (wM bd G (mA (mA (mA (mS (mS S8 23 12) 24 1) 20 (upd (S8.2 20) (12 : Int32).toNatClampNeg p1)) 21 (upd (S8.2 21) (12 : Int32).toNatClampNeg (S8.1 1))) 22 (upd (S8.2 22) (12 : Int32).toNatClampNeg p2)) ++ wr) H locs := ⟨hP, hD, hS⟩
    refine lv_aload_n hx hb d_M_log_109 rfl (lv_at hl 1 rfl) ?_
    refine lv_dup hx hb d_M_log_110 rfl ?_
    refine va_get (D := G.1) (ci := 3) (v := .int 12) (C := R_M) (T := T_M) (N := 25) hx hb hts in_M hown h0.1 hw.1 0 rfl rfl 23 (by decide) (hg (.fieldLink R_M 103 "SecureEntryModel" "logged" "I") (by decide +kernel)) (fun _ h9 => h9) rfl d_M_log_111 ?_
    refine lv_iconst (v := 1) hx hb d_M_log_114 (by decide) ?_
    refine lv_iadd hx hb d_M_log_115 ?_
    refine va_put (D := G.1) (ci := 3) (v := .int (12 + 1)) (ty := .int) (C := R_M) (T := T_M) (N := 25) hx hb hts in_M ty_M ty_M_ok n_M hown h0.1 hw.1 hw.2.1 hw.2.2 0 rfl rfl 23 (by decide) (hg (.fieldLink R_M 103 "SecureEntryModel" "logged" "I") (by decide +kernel)) (fun _ h9 => h9) rfl (by decide +kernel) rfl rfl (Nat.le_of_ble_eq_true rfl) d_M_log_116 (fun H locs hP hD hS => ?_)
    have hw : z_wl G (wM bd G st ++ wr) s (wM bd G (mS (mA (mA (mA (mS (mS S8 23 12) 24 1) 20 (upd (S8.2 20) (12 : Int32).toNatClampNeg p1)) 21 (upd (S8.2 21) (12 : Int32).toNatClampNeg (S8.1 1))) 22 (upd (S8.2 22) (12 : Int32).toNatClampNeg p2)) 23 (12 + 1)) ++ wr) H locs := ⟨hP, hD, hS⟩
    exact z_vret (wf := fun _ : Unit => (wM bd G (m_log st p1 p2) ++ wr)) (u := ()) hx hb hr hlocks h0 (by rw [m_log, if_pos c_6, ← eS]; exact hw) trivial (Nat.le_of_ble_eq_true rfl) (Nat.le_of_ble_eq_true rfl) d_M_log_119
end MLC
