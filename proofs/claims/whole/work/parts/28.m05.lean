section MC
set_option maxHeartbeats 4000000 in
set_option maxRecDepth 100000 in
theorem c_M_count (l : Launch) (G : gG) (bd : Nat → Nat) (st : MS) (wr : va_W) (sz : Nat) (p1 : Int32)  : Met l y_M_count w_M_count { frames := 1, cells := 0, slots := 0, locals := 21 } (va_Pc [.ref (bd 0), .int p1] (z_pre G (wM bd G st ++ wr) sz)) (z_Qi0 G (wM bd G st ++ wr) sz (wM bd G (m_count st p1).2 ++ wr) (m_count st p1).1) 0 0 (va_A (wM bd G st ++ wr) sz) := by
  refine Met.ofW (cc := b_M_count) (maxL := 2) (ret := (some .int)) (by decide) rfl ?_
  intro p e s m args below meth c s₁ B hml hv
  obtain ⟨rfl, hsz, hP, hK, hD0, ham⟩ := hv
  subst hsz
  have hx := B.exec
  have hb := B.bytes
  have hr := B.returns
  have hts : ∀ w ∈ goT, w.before _ s = true := fun w h => atoms_spec (ws := w_M_count) B.pre w (List.mem_cons_of_mem _ h)
  have hg : ∀ w, goB w = true → w.before _ s = true := fun w h => hts w (goI h)
  have hown : s.vm.findClass R_M = some m.cls := findClass_of_methodNamed B.named
  have hlocks := B.notSynchronized
  have h0 : z_st G (wM bd G st ++ wr) s := ⟨hK, ham⟩
  have hw : z_wl G (wM bd G st ++ wr) s (wM bd G st ++ wr) s.heap [] := z_0 hP hD0
  have hl := lv_entry ([.ref (bd 0), .int p1]) (n := 2) (Nat.le_of_ble_eq_true rfl)
  rw [lg_entry_eq]
  generalize (lg_sl ([.ref (bd 0), .int p1]) ++ List.replicate (2 - (lg_sl ([.ref (bd 0), .int p1])).length) Slot.unset).toArray = ls at hl ⊢
  have hl : lv_has ls 2 [(0, .ref (bd 0)), (1, .int p1)] := hl
  refine lv_aload_n hx hb d_M_count_0 rfl (lv_at hl 0 rfl) ?_
  refine lv_iconst (v := 0) hx hb d_M_count_1 (by decide) ?_
  refine va_put (D := G.1) (ci := 3) (v := .int 0) (ty := .int) (C := R_M) (T := T_M) (N := 25) hx hb hts in_M ty_M ty_M_ok n_M hown h0.1 hw.1 hw.2.1 hw.2.2 0 rfl rfl 0 (by decide) (hg (.fieldLink R_M 54 "SecureEntryModel" "thrown" "I") (by decide +kernel)) (fun _ h9 => h9) rfl (by decide +kernel) rfl rfl (Nat.le_of_ble_eq_true rfl) d_M_count_2 (fun H locs hP hD hS => ?_)
  have hw : z_wl G (wM bd G st ++ wr) s (wM bd G (mS st 0 0) ++ wr) H locs := ⟨hP, hD, hS⟩
  refine lv_iload_n hx hb d_M_count_5 rfl (lv_at hl 1 rfl) ?_
  rcases Classical.em (p1 = 0) with c_6_0 | c_6_0
  · refine lv_tableIn (tgt := 64) hx hb d_M_count_6 (by rw [c_6_0]; decide) (by rw [c_6_0]; decide) (by rw [c_6_0]; rfl) (by decide) ?_
    refine lv_aload_n hx hb d_M_count_64 rfl (lv_at hl 0 rfl) ?_
    refine va_get (D := G.1) (ci := 3) (v := .int (st.1 13)) (C := R_M) (T := T_M) (N := 25) hx hb hts in_M hown h0.1 hw.1 0 rfl rfl 13 (by decide) (hg (.fieldLink R_M 99 "SecureEntryModel" "up" "Z") (by decide +kernel)) (fun _ h9 => h9) rfl d_M_count_65 ?_
    refine lv_if_eq (tgt := 75) hx hb d_M_count_68 (by decide) (fun c_68 => ?_) (fun c_68 => ?_)
    · refine lv_iconst (v := 0) hx hb d_M_count_75 (by decide) ?_
      exact z_iret (wf := fun _ : Unit => (wM bd G (m_count st p1).2 ++ wr)) (post := fun r _ => r = (m_count st p1).1) (u := ()) hx hb hr hlocks h0 (by rw [m_count, if_pos c_6_0, if_pos c_68]; exact hw) rfl (by rw [m_count, if_pos c_6_0, if_pos c_68]) (Nat.le_of_ble_eq_true rfl) (Nat.le_of_ble_eq_true rfl) d_M_count_76
    · refine lv_iconst (v := 1) hx hb d_M_count_71 (by decide) ?_
      refine lv_goto (tgt := 76) hx hb d_M_count_72 (by decide) ?_
      exact z_iret (wf := fun _ : Unit => (wM bd G (m_count st p1).2 ++ wr)) (post := fun r _ => r = (m_count st p1).1) (u := ()) hx hb hr hlocks h0 (by rw [m_count, if_pos c_6_0, if_neg c_68]; exact hw) rfl (by rw [m_count, if_pos c_6_0, if_neg c_68]) (Nat.le_of_ble_eq_true rfl) (Nat.le_of_ble_eq_true rfl) d_M_count_76
  · skip
    rcases Classical.em (p1 = 1) with c_6_1 | c_6_1
    · refine lv_tableIn (tgt := 77) hx hb d_M_count_6 (by rw [c_6_1]; decide) (by rw [c_6_1]; decide) (by rw [c_6_1]; rfl) (by decide) ?_
      refine lv_aload_n hx hb d_M_count_77 rfl (lv_at hl 0 rfl) ?_
      refine va_get (D := G.1) (ci := 3) (v := .int (st.1 14)) (C := R_M) (T := T_M) (N := 25) hx hb hts in_M hown h0.1 hw.1 0 rfl rfl 14 (by decide) (hg (.fieldLink R_M 113 "SecureEntryModel" "user" "I") (by decide +kernel)) (fun _ h9 => h9) rfl d_M_count_78 ?_
      exact z_iret (wf := fun _ : Unit => (wM bd G (m_count st p1).2 ++ wr)) (post := fun r _ => r = (m_count st p1).1) (u := ()) hx hb hr hlocks h0 (by rw [m_count, if_neg c_6_0, if_pos c_6_1]; exact hw) rfl (by rw [m_count, if_neg c_6_0, if_pos c_6_1]) (Nat.le_of_ble_eq_true rfl) (Nat.le_of_ble_eq_true rfl) d_M_count_81
    · skip
      rcases Classical.em (p1 = 2) with c_6_2 | c_6_2
      · refine lv_tableIn (tgt := 82) hx hb d_M_count_6 (by rw [c_6_2]; decide) (by rw [c_6_2]; decide) (by rw [c_6_2]; rfl) (by decide) ?_
        refine lv_aload_n hx hb d_M_count_82 rfl (lv_at hl 0 rfl) ?_
        refine va_get (D := G.1) (ci := 3) (v := .int (st.1 16)) (C := R_M) (T := T_M) (N := 25) hx hb hts in_M hown h0.1 hw.1 0 rfl rfl 16 (by decide) (hg (.fieldLink R_M 116 "SecureEntryModel" "role" "I") (by decide +kernel)) (fun _ h9 => h9) rfl d_M_count_83 ?_
        exact z_iret (wf := fun _ : Unit => (wM bd G (m_count st p1).2 ++ wr)) (post := fun r _ => r = (m_count st p1).1) (u := ()) hx hb hr hlocks h0 (by rw [m_count, if_neg c_6_0, if_neg c_6_1, if_pos c_6_2]; exact hw) rfl (by rw [m_count, if_neg c_6_0, if_neg c_6_1, if_pos c_6_2]) (Nat.le_of_ble_eq_true rfl) (Nat.le_of_ble_eq_true rfl) d_M_count_86
      · skip
        rcases Classical.em (p1 = 3) with c_6_3 | c_6_3
        · refine lv_tableIn (tgt := 87) hx hb d_M_count_6 (by rw [c_6_3]; decide) (by rw [c_6_3]; decide) (by rw [c_6_3]; rfl) (by decide) ?_
          refine lv_aload_n hx hb d_M_count_87 rfl (lv_at hl 0 rfl) ?_
          refine va_get (D := G.1) (ci := 3) (v := .int (st.1 1)) (C := R_M) (T := T_M) (N := 25) hx hb hts in_M hown h0.1 hw.1 0 rfl rfl 1 (by decide) (hg (.fieldLink R_M 93 "SecureEntryModel" "time" "I") (by decide +kernel)) (fun _ h9 => h9) rfl d_M_count_88 ?_
          refine lv_aload_n hx hb d_M_count_91 rfl (lv_at hl 0 rfl) ?_
          refine va_get (D := G.1) (ci := 3) (v := .int (st.1 17)) (C := R_M) (T := T_M) (N := 25) hx hb hts in_M hown h0.1 hw.1 0 rfl rfl 17 (by decide) (hg (.fieldLink R_M 139 "SecureEntryModel" "until" "I") (by decide +kernel)) (fun _ h9 => h9) rfl d_M_count_92 ?_
          refine lv_icmp_ge (tgt := 102) hx hb d_M_count_95 (by decide) (fun c_95 => ?_) (fun c_95 => ?_)
          · refine lv_iconst (v := 0) hx hb d_M_count_102 (by decide) ?_
            exact z_iret (wf := fun _ : Unit => (wM bd G (m_count st p1).2 ++ wr)) (post := fun r _ => r = (m_count st p1).1) (u := ()) hx hb hr hlocks h0 (by rw [m_count, if_neg c_6_0, if_neg c_6_1, if_neg c_6_2, if_pos c_6_3, if_pos c_95]; exact hw) rfl (by rw [m_count, if_neg c_6_0, if_neg c_6_1, if_neg c_6_2, if_pos c_6_3, if_pos c_95]) (Nat.le_of_ble_eq_true rfl) (Nat.le_of_ble_eq_true rfl) d_M_count_103
          · refine lv_iconst (v := 1) hx hb d_M_count_98 (by decide) ?_
            refine lv_goto (tgt := 103) hx hb d_M_count_99 (by decide) ?_
            exact z_iret (wf := fun _ : Unit => (wM bd G (m_count st p1).2 ++ wr)) (post := fun r _ => r = (m_count st p1).1) (u := ()) hx hb hr hlocks h0 (by rw [m_count, if_neg c_6_0, if_neg c_6_1, if_neg c_6_2, if_pos c_6_3, if_neg c_95]; exact hw) rfl (by rw [m_count, if_neg c_6_0, if_neg c_6_1, if_neg c_6_2, if_pos c_6_3, if_neg c_95]) (Nat.le_of_ble_eq_true rfl) (Nat.le_of_ble_eq_true rfl) d_M_count_103
        · skip
          rcases Classical.em (p1 = 4) with c_6_4 | c_6_4
          · refine lv_tableIn (tgt := 104) hx hb d_M_count_6 (by rw [c_6_4]; decide) (by rw [c_6_4]; decide) (by rw [c_6_4]; rfl) (by decide) ?_
            refine lv_aload_n hx hb d_M_count_104 rfl (lv_at hl 0 rfl) ?_
            refine va_get (D := G.1) (ci := 3) (v := .int (st.1 18)) (C := R_M) (T := T_M) (N := 25) hx hb hts in_M hown h0.1 hw.1 0 rfl rfl 18 (by decide) (hg (.fieldLink R_M 151 "SecureEntryModel" "door" "Z") (by decide +kernel)) (fun _ h9 => h9) rfl d_M_count_105 ?_
            refine lv_if_eq (tgt := 115) hx hb d_M_count_108 (by decide) (fun c_108 => ?_) (fun c_108 => ?_)
            · refine lv_iconst (v := 0) hx hb d_M_count_115 (by decide) ?_
              exact z_iret (wf := fun _ : Unit => (wM bd G (m_count st p1).2 ++ wr)) (post := fun r _ => r = (m_count st p1).1) (u := ()) hx hb hr hlocks h0 (by rw [m_count, if_neg c_6_0, if_neg c_6_1, if_neg c_6_2, if_neg c_6_3, if_pos c_6_4, if_pos c_108]; exact hw) rfl (by rw [m_count, if_neg c_6_0, if_neg c_6_1, if_neg c_6_2, if_neg c_6_3, if_pos c_6_4, if_pos c_108]) (Nat.le_of_ble_eq_true rfl) (Nat.le_of_ble_eq_true rfl) d_M_count_116
            · refine lv_iconst (v := 1) hx hb d_M_count_111 (by decide) ?_
              refine lv_goto (tgt := 116) hx hb d_M_count_112 (by decide) ?_
              exact z_iret (wf := fun _ : Unit => (wM bd G (m_count st p1).2 ++ wr)) (post := fun r _ => r = (m_count st p1).1) (u := ()) hx hb hr hlocks h0 (by rw [m_count, if_neg c_6_0, if_neg c_6_1, if_neg c_6_2, if_neg c_6_3, if_pos c_6_4, if_neg c_108]; exact hw) rfl (by rw [m_count, if_neg c_6_0, if_neg c_6_1, if_neg c_6_2, if_neg c_6_3, if_pos c_6_4, if_neg c_108]) (Nat.le_of_ble_eq_true rfl) (Nat.le_of_ble_eq_true rfl) d_M_count_116
          · skip
            rcases Classical.em (p1 = 5) with c_6_5 | c_6_5
            · refine lv_tableIn (tgt := 117) hx hb d_M_count_6 (by rw [c_6_5]; decide) (by rw [c_6_5]; decide) (by rw [c_6_5]; rfl) (by decide) ?_
              refine lv_aload_n hx hb d_M_count_117 rfl (lv_at hl 0 rfl) ?_
              refine va_get (D := G.1) (ci := 3) (v := .int (st.1 18)) (C := R_M) (T := T_M) (N := 25) hx hb hts in_M hown h0.1 hw.1 0 rfl rfl 18 (by decide) (hg (.fieldLink R_M 151 "SecureEntryModel" "door" "Z") (by decide +kernel)) (fun _ h9 => h9) rfl d_M_count_118 ?_
              refine lv_if_eq (tgt := 150) hx hb d_M_count_121 (by decide) (fun c_121 => ?_) (fun c_121 => ?_)
              · refine lv_iconst (v := 0) hx hb d_M_count_150 (by decide) ?_
                exact z_iret (wf := fun _ : Unit => (wM bd G (m_count st p1).2 ++ wr)) (post := fun r _ => r = (m_count st p1).1) (u := ()) hx hb hr hlocks h0 (by rw [m_count, if_neg c_6_0, if_neg c_6_1, if_neg c_6_2, if_neg c_6_3, if_neg c_6_4, if_pos c_6_5, if_pos c_121]; exact hw) rfl (by rw [m_count, if_neg c_6_0, if_neg c_6_1, if_neg c_6_2, if_neg c_6_3, if_neg c_6_4, if_pos c_6_5, if_pos c_121]) (Nat.le_of_ble_eq_true rfl) (Nat.le_of_ble_eq_true rfl) d_M_count_151
              · refine lv_aload_n hx hb d_M_count_124 rfl (lv_at hl 0 rfl) ?_
                refine va_get (D := G.1) (ci := 3) (v := .int (st.1 1)) (C := R_M) (T := T_M) (N := 25) hx hb hts in_M hown h0.1 hw.1 0 rfl rfl 1 (by decide) (hg (.fieldLink R_M 93 "SecureEntryModel" "time" "I") (by decide +kernel)) (fun _ h9 => h9) rfl d_M_count_125 ?_
                refine lv_aload_n hx hb d_M_count_128 rfl (lv_at hl 0 rfl) ?_
                refine va_get (D := G.1) (ci := 3) (v := .int (st.1 17)) (C := R_M) (T := T_M) (N := 25) hx hb hts in_M hown h0.1 hw.1 0 rfl rfl 17 (by decide) (hg (.fieldLink R_M 139 "SecureEntryModel" "until" "I") (by decide +kernel)) (fun _ h9 => h9) rfl d_M_count_129 ?_
                refine lv_icmp_lt (tgt := 150) hx hb d_M_count_132 (by decide) (fun c_132 => ?_) (fun c_132 => ?_)
                · refine lv_iconst (v := 0) hx hb d_M_count_150 (by decide) ?_
                  exact z_iret (wf := fun _ : Unit => (wM bd G (m_count st p1).2 ++ wr)) (post := fun r _ => r = (m_count st p1).1) (u := ()) hx hb hr hlocks h0 (by rw [m_count, if_neg c_6_0, if_neg c_6_1, if_neg c_6_2, if_neg c_6_3, if_neg c_6_4, if_pos c_6_5, if_neg c_121, if_pos c_132]; exact hw) rfl (by rw [m_count, if_neg c_6_0, if_neg c_6_1, if_neg c_6_2, if_neg c_6_3, if_neg c_6_4, if_pos c_6_5, if_neg c_121, if_pos c_132]) (Nat.le_of_ble_eq_true rfl) (Nat.le_of_ble_eq_true rfl) d_M_count_151
                · refine lv_aload_n hx hb d_M_count_135 rfl (lv_at hl 0 rfl) ?_
                  refine va_get (D := G.1) (ci := 3) (v := .int (st.1 1)) (C := R_M) (T := T_M) (N := 25) hx hb hts in_M hown h0.1 hw.1 0 rfl rfl 1 (by decide) (hg (.fieldLink R_M 93 "SecureEntryModel" "time" "I") (by decide +kernel)) (fun _ h9 => h9) rfl d_M_count_136 ?_
                  refine lv_aload_n hx hb d_M_count_139 rfl (lv_at hl 0 rfl) ?_
                  refine va_get (D := G.1) (ci := 3) (v := .int (st.1 19)) (C := R_M) (T := T_M) (N := 25) hx hb hts in_M hown h0.1 hw.1 0 rfl rfl 19 (by decide) (hg (.fieldLink R_M 142 "SecureEntryModel" "alarmTime" "I") (by decide +kernel)) (fun _ h9 => h9) rfl d_M_count_140 ?_
                  refine lv_icmp_lt (tgt := 150) hx hb d_M_count_143 (by decide) (fun c_143 => ?_) (fun c_143 => ?_)
                  · refine lv_iconst (v := 0) hx hb d_M_count_150 (by decide) ?_
                    exact z_iret (wf := fun _ : Unit => (wM bd G (m_count st p1).2 ++ wr)) (post := fun r _ => r = (m_count st p1).1) (u := ()) hx hb hr hlocks h0 (by rw [m_count, if_neg c_6_0, if_neg c_6_1, if_neg c_6_2, if_neg c_6_3, if_neg c_6_4, if_pos c_6_5, if_neg c_121, if_neg c_132, if_pos c_143]; exact hw) rfl (by rw [m_count, if_neg c_6_0, if_neg c_6_1, if_neg c_6_2, if_neg c_6_3, if_neg c_6_4, if_pos c_6_5, if_neg c_121, if_neg c_132, if_pos c_143]) (Nat.le_of_ble_eq_true rfl) (Nat.le_of_ble_eq_true rfl) d_M_count_151
                  · refine lv_iconst (v := 1) hx hb d_M_count_146 (by decide) ?_
                    refine lv_goto (tgt := 151) hx hb d_M_count_147 (by decide) ?_
                    exact z_iret (wf := fun _ : Unit => (wM bd G (m_count st p1).2 ++ wr)) (post := fun r _ => r = (m_count st p1).1) (u := ()) hx hb hr hlocks h0 (by rw [m_count, if_neg c_6_0, if_neg c_6_1, if_neg c_6_2, if_neg c_6_3, if_neg c_6_4, if_pos c_6_5, if_neg c_121, if_neg c_132, if_neg c_143]; exact hw) rfl (by rw [m_count, if_neg c_6_0, if_neg c_6_1, if_neg c_6_2, if_neg c_6_3, if_neg c_6_4, if_pos c_6_5, if_neg c_121, if_neg c_132, if_neg c_143]) (Nat.le_of_ble_eq_true rfl) (Nat.le_of_ble_eq_true rfl) d_M_count_151
            · skip
              rcases Classical.em (p1 = 6) with c_6_6 | c_6_6
              · refine lv_tableIn (tgt := 152) hx hb d_M_count_6 (by rw [c_6_6]; decide) (by rw [c_6_6]; decide) (by rw [c_6_6]; rfl) (by decide) ?_
                refine lv_aload_n hx hb d_M_count_152 rfl (lv_at hl 0 rfl) ?_
                refine va_get (D := G.1) (ci := 3) (v := .int (st.1 24)) (C := R_M) (T := T_M) (N := 25) hx hb hts in_M hown h0.1 hw.1 0 rfl rfl 24 (by decide) (hg (.fieldLink R_M 106 "SecureEntryModel" "logAlarm" "Z") (by decide +kernel)) (fun _ h9 => h9) rfl d_M_count_153 ?_
                refine lv_if_eq (tgt := 163) hx hb d_M_count_156 (by decide) (fun c_156 => ?_) (fun c_156 => ?_)
                · refine lv_iconst (v := 0) hx hb d_M_count_163 (by decide) ?_
                  exact z_iret (wf := fun _ : Unit => (wM bd G (m_count st p1).2 ++ wr)) (post := fun r _ => r = (m_count st p1).1) (u := ()) hx hb hr hlocks h0 (by rw [m_count, if_neg c_6_0, if_neg c_6_1, if_neg c_6_2, if_neg c_6_3, if_neg c_6_4, if_neg c_6_5, if_pos c_6_6, if_pos c_156]; exact hw) rfl (by rw [m_count, if_neg c_6_0, if_neg c_6_1, if_neg c_6_2, if_neg c_6_3, if_neg c_6_4, if_neg c_6_5, if_pos c_6_6, if_pos c_156]) (Nat.le_of_ble_eq_true rfl) (Nat.le_of_ble_eq_true rfl) d_M_count_164
                · refine lv_iconst (v := 1) hx hb d_M_count_159 (by decide) ?_
                  refine lv_goto (tgt := 164) hx hb d_M_count_160 (by decide) ?_
                  exact z_iret (wf := fun _ : Unit => (wM bd G (m_count st p1).2 ++ wr)) (post := fun r _ => r = (m_count st p1).1) (u := ()) hx hb hr hlocks h0 (by rw [m_count, if_neg c_6_0, if_neg c_6_1, if_neg c_6_2, if_neg c_6_3, if_neg c_6_4, if_neg c_6_5, if_pos c_6_6, if_neg c_156]; exact hw) rfl (by rw [m_count, if_neg c_6_0, if_neg c_6_1, if_neg c_6_2, if_neg c_6_3, if_neg c_6_4, if_neg c_6_5, if_pos c_6_6, if_neg c_156]) (Nat.le_of_ble_eq_true rfl) (Nat.le_of_ble_eq_true rfl) d_M_count_164
              · skip
                rcases Classical.em (p1 = 7) with c_6_7 | c_6_7
                · refine lv_tableIn (tgt := 165) hx hb d_M_count_6 (by rw [c_6_7]; decide) (by rw [c_6_7]; decide) (by rw [c_6_7]; rfl) (by decide) ?_
                  refine lv_aload_n hx hb d_M_count_165 rfl (lv_at hl 0 rfl) ?_
                  refine va_get (D := G.1) (ci := 3) (v := .int (st.1 23)) (C := R_M) (T := T_M) (N := 25) hx hb hts in_M hown h0.1 hw.1 0 rfl rfl 23 (by decide) (hg (.fieldLink R_M 103 "SecureEntryModel" "logged" "I") (by decide +kernel)) (fun _ h9 => h9) rfl d_M_count_166 ?_
                  exact z_iret (wf := fun _ : Unit => (wM bd G (m_count st p1).2 ++ wr)) (post := fun r _ => r = (m_count st p1).1) (u := ()) hx hb hr hlocks h0 (by rw [m_count, if_neg c_6_0, if_neg c_6_1, if_neg c_6_2, if_neg c_6_3, if_neg c_6_4, if_neg c_6_5, if_neg c_6_6, if_pos c_6_7]; exact hw) rfl (by rw [m_count, if_neg c_6_0, if_neg c_6_1, if_neg c_6_2, if_neg c_6_3, if_neg c_6_4, if_neg c_6_5, if_neg c_6_6, if_pos c_6_7]) (Nat.le_of_ble_eq_true rfl) (Nat.le_of_ble_eq_true rfl) d_M_count_169
                · skip
                  rcases Classical.em (p1 = 8) with c_6_8 | c_6_8
                  · refine lv_tableIn (tgt := 170) hx hb d_M_count_6 (by rw [c_6_8]; decide) (by rw [c_6_8]; decide) (by rw [c_6_8]; rfl) (by decide) ?_
                    refine lv_aload_n hx hb d_M_count_170 rfl (lv_at hl 0 rfl) ?_
                    refine va_get (D := G.1) (ci := 3) (v := .int (st.1 1)) (C := R_M) (T := T_M) (N := 25) hx hb hts in_M hown h0.1 hw.1 0 rfl rfl 1 (by decide) (hg (.fieldLink R_M 93 "SecureEntryModel" "time" "I") (by decide +kernel)) (fun _ h9 => h9) rfl d_M_count_171 ?_
                    exact z_iret (wf := fun _ : Unit => (wM bd G (m_count st p1).2 ++ wr)) (post := fun r _ => r = (m_count st p1).1) (u := ()) hx hb hr hlocks h0 (by rw [m_count, if_neg c_6_0, if_neg c_6_1, if_neg c_6_2, if_neg c_6_3, if_neg c_6_4, if_neg c_6_5, if_neg c_6_6, if_neg c_6_7, if_pos c_6_8]; exact hw) rfl (by rw [m_count, if_neg c_6_0, if_neg c_6_1, if_neg c_6_2, if_neg c_6_3, if_neg c_6_4, if_neg c_6_5, if_neg c_6_6, if_neg c_6_7, if_pos c_6_8]) (Nat.le_of_ble_eq_true rfl) (Nat.le_of_ble_eq_true rfl) d_M_count_174
                  · skip
                    rcases Classical.em (p1 = 9) with c_6_9 | c_6_9
                    · refine lv_tableIn (tgt := 175) hx hb d_M_count_6 (by rw [c_6_9]; decide) (by rw [c_6_9]; decide) (by rw [c_6_9]; rfl) (by decide) ?_
                      refine lv_aload_n hx hb d_M_count_175 rfl (lv_at hl 0 rfl) ?_
                      refine va_get (D := G.1) (ci := 3) (v := .int (st.1 11)) (C := R_M) (T := T_M) (N := 25) hx hb hts in_M hown h0.1 hw.1 0 rfl rfl 11 (by decide) (hg (.fieldLink R_M 38 "SecureEntryModel" "outer" "I") (by decide +kernel)) (fun _ h9 => h9) rfl d_M_count_176 ?_
                      exact z_iret (wf := fun _ : Unit => (wM bd G (m_count st p1).2 ++ wr)) (post := fun r _ => r = (m_count st p1).1) (u := ()) hx hb hr hlocks h0 (by rw [m_count, if_neg c_6_0, if_neg c_6_1, if_neg c_6_2, if_neg c_6_3, if_neg c_6_4, if_neg c_6_5, if_neg c_6_6, if_neg c_6_7, if_neg c_6_8, if_pos c_6_9]; exact hw) rfl (by rw [m_count, if_neg c_6_0, if_neg c_6_1, if_neg c_6_2, if_neg c_6_3, if_neg c_6_4, if_neg c_6_5, if_neg c_6_6, if_neg c_6_7, if_neg c_6_8, if_pos c_6_9]) (Nat.le_of_ble_eq_true rfl) (Nat.le_of_ble_eq_true rfl) d_M_count_179
                    · skip
                      rcases Classical.em (p1 = 10) with c_6_10 | c_6_10
                      · refine lv_tableIn (tgt := 180) hx hb d_M_count_6 (by rw [c_6_10]; decide) (by rw [c_6_10]; decide) (by rw [c_6_10]; rfl) (by decide) ?_
                        refine lv_aload_n hx hb d_M_count_180 rfl (lv_at hl 0 rfl) ?_
                        refine va_get (D := G.1) (ci := 3) (v := .int (st.1 12)) (C := R_M) (T := T_M) (N := 25) hx hb hts in_M hown h0.1 hw.1 0 rfl rfl 12 (by decide) (hg (.fieldLink R_M 42 "SecureEntryModel" "inner" "I") (by decide +kernel)) (fun _ h9 => h9) rfl d_M_count_181 ?_
                        exact z_iret (wf := fun _ : Unit => (wM bd G (m_count st p1).2 ++ wr)) (post := fun r _ => r = (m_count st p1).1) (u := ()) hx hb hr hlocks h0 (by rw [m_count, if_neg c_6_0, if_neg c_6_1, if_neg c_6_2, if_neg c_6_3, if_neg c_6_4, if_neg c_6_5, if_neg c_6_6, if_neg c_6_7, if_neg c_6_8, if_neg c_6_9, if_pos c_6_10]; exact hw) rfl (by rw [m_count, if_neg c_6_0, if_neg c_6_1, if_neg c_6_2, if_neg c_6_3, if_neg c_6_4, if_neg c_6_5, if_neg c_6_6, if_neg c_6_7, if_neg c_6_8, if_neg c_6_9, if_pos c_6_10]) (Nat.le_of_ble_eq_true rfl) (Nat.le_of_ble_eq_true rfl) d_M_count_184
                      · refine lv_tableOut (tgt := 185) hx hb d_M_count_6 (z_tout11 c_6_0 c_6_1 c_6_2 c_6_3 c_6_4 c_6_5 c_6_6 c_6_7 c_6_8 c_6_9 c_6_10) (by decide) ?_
                        refine lv_aload_n hx hb d_M_count_185 rfl (lv_at hl 0 rfl) ?_
                        refine lv_iconst (v := 1) hx hb d_M_count_186 (by decide) ?_
                        refine z_Vi0 (As := [.int 1]) (v := 0) (ws1 := (wM bd G (mS (mS st 0 0) 0 1) ++ wr)) ⟨hx, hb, hml, hown, hts⟩ (c_M_raise l G bd (mS st 0 0) wr _ 1) (cwV 1 hts gV_M_81 rfl rfl rfl (by decide +kernel) ⟨Nat.le_of_ble_eq_true rfl, Nat.le_of_ble_eq_true rfl⟩) h0 hw 0 rfl rfl rfl rfl hl.1 rfl (Nat.le_of_ble_eq_true rfl) d_M_count_187 ⟨Nat.le_of_ble_eq_true rfl, Nat.le_of_ble_eq_true rfl⟩ (fun H locs hw => ?_)
                        exact z_iret (wf := fun _ : Unit => (wM bd G (m_count st p1).2 ++ wr)) (post := fun r _ => r = (m_count st p1).1) (u := ()) hx hb hr hlocks h0 (by rw [m_count, if_neg c_6_0, if_neg c_6_1, if_neg c_6_2, if_neg c_6_3, if_neg c_6_4, if_neg c_6_5, if_neg c_6_6, if_neg c_6_7, if_neg c_6_8, if_neg c_6_9, if_neg c_6_10]; exact hw) rfl (by rw [m_count, if_neg c_6_0, if_neg c_6_1, if_neg c_6_2, if_neg c_6_3, if_neg c_6_4, if_neg c_6_5, if_neg c_6_6, if_neg c_6_7, if_neg c_6_8, if_neg c_6_9, if_neg c_6_10]) (Nat.le_of_ble_eq_true rfl) (Nat.le_of_ble_eq_true rfl) d_M_count_190

end MC
