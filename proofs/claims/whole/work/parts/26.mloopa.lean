section MLC
set_option maxHeartbeats 4000000 in
set_option maxRecDepth 100000 in
theorem c_M_differing (l : Launch) (G : gG) (ws : va_W) (sz : Nat) (p1 p2 : Int32) : Met l y_M_differing w_M_differing { frames := 0, cells := 0, slots := 0, locals := 0 } (va_Pc [.int p1, .int p2] (z_pre G ws sz)) (z_Qi0 G ws sz ws (m_differing p1 p2)) 0 0 (va_A ws sz) := by
  refine Met.ofW (cc := b_M_differing) (maxL := 4) (ret := (some .int)) (by decide) rfl ?_
  intro p e s m args below meth c s₁ B hml hv
  obtain ⟨rfl, hsz, hP, hK, hD0, ham⟩ := hv
  subst hsz
  have hx := B.exec
  have hb := B.bytes
  have hr := B.returns
  have hts : ∀ w ∈ goT, w.before _ s = true := fun w h => atoms_spec (ws := w_M_differing) B.pre w (List.mem_cons_of_mem _ h)
  have hg : ∀ w, goB w = true → w.before _ s = true := fun w h => hts w (goI h)
  have hown : s.vm.findClass R_M = some m.cls := findClass_of_methodNamed B.named
  have hlocks := B.notSynchronized
  have h0 : z_st G ws s := ⟨hK, ham⟩
  have hw : z_wl G ws s ws s.heap [] := z_0 hP hD0
  have hl := lv_entry ([.int p1, .int p2]) (n := 4) (Nat.le_of_ble_eq_true rfl)
  rw [lg_entry_eq]
  generalize (lg_sl ([.int p1, .int p2]) ++ List.replicate (4 - (lg_sl ([.int p1, .int p2])).length) Slot.unset).toArray = ls at hl ⊢
  have hl : lv_has ls 4 [(0, .int p1), (1, .int p2)] := hl
  have loop : ∀ (n i : Nat), i ≤ 16 → 17 ≤ i + n → ∀ (H : Heap) (locs : List Loc), z_wl G ws s ws H locs → ∀ (ls : Array Slot), lv_has ls 4 [(3, .int (nI i)), (2, .int (m_dif p1 p2 i)), (0, .int p1), (1, .int p2)] → W p l e (headSpec w_M_differing { frames := 0, cells := 0, slots := 0, locals := 0 }).room s m #[.int p1, .int p2] below meth c H locs 0 0 (MQ below (z_Qi0 G ws s.heap.size ws (m_differing p1 p2)) #[.int p1, .int p2] s 0 0 (va_A ws s.heap.size)) (F0 m 4 ls []) := by
    intro n
    induction n with
    | zero => intro i h1 h2; exact absurd h2 (by omega)
    | succ n ih =>
      intro i h1 h2 H locs hw ls hl
      refine lv_iload_n hx hb d_M_differing_4 rfl (lv_at hl 0 rfl) ?_
      refine lv_bipush (v := 16) hx hb d_M_differing_5 (by decide) ?_
      refine lv_icmp_ge (tgt := 32) hx hb d_M_differing_7 (by decide) (fun c_7 => ?_) (fun c_7 => ?_)
      · have hi : i = 16 := Nat.le_antisymm h1 ((nI_leI (by decide) (by omega)).mp (show nI 16 ≤ nI i from c_7))
        refine lv_iload_n hx hb d_M_differing_32 rfl (lv_at hl 1 rfl) ?_
        exact z_iret (wf := fun _ : Unit => ws) (post := fun r _ => r = m_differing p1 p2) (u := ()) hx hb hr hlocks h0 hw rfl (by rw [m_differing, hi]) (Nat.le_of_ble_eq_true rfl) (Nat.le_of_ble_eq_true rfl) d_M_differing_33
      · have hi : i < 16 := (nI_ltI (by omega) (by decide)).mp (show nI i < nI 16 from Int32.not_le.mp c_7)
        refine lv_iload_n hx hb d_M_differing_10 rfl (lv_at hl 2 rfl) ?_
        refine lv_iload_n hx hb d_M_differing_11 rfl (lv_at hl 0 rfl) ?_
        refine lv_ishr hx hb d_M_differing_12 ?_
        refine lv_iconst (v := 1) hx hb d_M_differing_13 (by decide) ?_
        refine lv_iand hx hb d_M_differing_14 ?_
        refine lv_iload_n hx hb d_M_differing_15 rfl (lv_at hl 3 rfl) ?_
        refine lv_iload_n hx hb d_M_differing_16 rfl (lv_at hl 0 rfl) ?_
        refine lv_ishr hx hb d_M_differing_17 ?_
        refine lv_iconst (v := 1) hx hb d_M_differing_18 (by decide) ?_
        refine lv_iand hx hb d_M_differing_19 ?_
        refine lv_icmp_eq (tgt := 26) hx hb d_M_differing_20 (by decide) (fun c_20 => ?_) (fun c_20 => ?_)
        · refine lv_iinc (v := ((nI i) + 1)) (lv' := [(3, .int ((nI i) + 1)), (2, .int (m_dif p1 p2 i)), (0, .int p1), (1, .int p2)]) hx hb d_M_differing_26 hl (k := 0) rfl rfl (by decide) rfl (fun ls hl => ?_)
          refine lv_goto (tgt := 4) hx hb d_M_differing_29 (by decide) ?_
          have hl := lv_sub hl [0, 1, 2, 3] rfl
          exact ih (i + 1) (by omega) (by omega) H locs hw ls (by rw [m_dif, if_pos c_20, ← nI_1]; exact hl)
        · refine lv_iinc (v := ((m_dif p1 p2 i) + 1)) (lv' := [(2, .int ((m_dif p1 p2 i) + 1)), (3, .int (nI i)), (0, .int p1), (1, .int p2)]) hx hb d_M_differing_23 hl (k := 1) rfl rfl (by decide) rfl (fun ls hl => ?_)
          refine lv_iinc (v := ((nI i) + 1)) (lv' := [(3, .int ((nI i) + 1)), (2, .int ((m_dif p1 p2 i) + 1)), (0, .int p1), (1, .int p2)]) hx hb d_M_differing_26 hl (k := 1) rfl rfl (by decide) rfl (fun ls hl => ?_)
          refine lv_goto (tgt := 4) hx hb d_M_differing_29 (by decide) ?_
          have hl := lv_sub hl [0, 1, 2, 3] rfl
          exact ih (i + 1) (by omega) (by omega) H locs hw ls (by rw [m_dif, if_neg c_20, ← nI_1]; exact hl)
  refine lv_iconst (v := 0) hx hb d_M_differing_0 (by decide) ?_
  refine lv_istore_n (lv' := [(2, .int 0), (0, .int p1), (1, .int p2)]) hx hb d_M_differing_1 rfl hl (by decide) rfl (fun ls hl => ?_)
  refine lv_iconst (v := 0) hx hb d_M_differing_2 (by decide) ?_
  refine lv_istore_n (lv' := [(3, .int 0), (2, .int 0), (0, .int p1), (1, .int p2)]) hx hb d_M_differing_3 rfl hl (by decide) rfl (fun ls hl => ?_)
  exact loop 17 0 (by decide) (by decide) _ _ hw ls hl
end MLC
