set_option maxRecDepth 16384 in
theorem wd_start : AtStart classFile x code maxLocals ret World_1 tables_1 room_1 Calls_1 rest_1 Pre_1 launch0 start1.p0 start1.e0 wd_about ⟨0, 0⟩ start1.args0 Lib.HandBits.below0 :=
  ⟨lists_1, trivial, launch0.admits_env _ _ _, launch0.least_env, fairChoices_fair.cas, fairChoices_fair.clock, rfl, wd_args, wd_heap,
    (Spec.applies_iff rfl).mpr ⟨rfl, rfl, rfl, by decide +kernel, by decide +kernel, by decide +kernel, launch0.hasRoom_least _ room_1 (by decide +kernel) (by decide +kernel) (by decide +kernel) (by decide +kernel) (by decide +kernel) (by decide +kernel), atoms_intro wd_words⟩,
    trivial, wd_rest, wd_premises⟩
theorem wd_ended : Ended (wd_run 15) Lib.HandBits.below0 (Outcome.threw 3) := wd_left_eq wd_threw
def wd_in (l : List Frame) : Bool :=
  match l.reverse with
  | .native g :: r => decide (g.method = ⟨0, 0⟩) && decide (g.args.toList = []) && decide (g.stage = 0) && decide (g.saved.toList = []) && !g.awaiting && g.answer.isNone && g.locked.isNone && decide (g.words = 0) &&
      (match r with
       | [] => false
       | [.throwing _] => false
       | _ => true)
  | _ => false
theorem wd_in_eq {s : State} (h : wd_in s.frames = true) : Within s Lib.HandBits.below0 := by
  unfold wd_in at h
  split at h
  · rename_i g r hr
    rw [Bool.and_eq_true] at h
    obtain ⟨h0, hb⟩ := h
    have hl : s.frames = r.reverse ++ [Frame.native g] := by
      have h2 := congrArg List.reverse hr
      rw [List.reverse_reverse, List.reverse_cons] at h2
      exact h2
    have hg : Frame.native g :: [] = Lib.HandBits.below0 := by
      obtain ⟨m, ar, st, sv, aw, an, lk, wo⟩ := g
      simp only [Bool.and_eq_true, decide_eq_true_eq, Bool.not_eq_true', Option.isNone_iff_eq_none, Array.toList_eq_nil_iff] at h0
      obtain ⟨⟨⟨⟨⟨⟨⟨h2, h3⟩, h4⟩, h5⟩, h6⟩, h7⟩, h8⟩, h9⟩ := h0
      subst h2 h3 h4 h5 h6 h7 h8 h9
      rfl
    refine ⟨r.reverse, by rw [hl, hg], ?_, ?_⟩
    · intro hn
      have hn2 : r = [] := by simpa using hn
      subst hn2
      cases hb
    · intro a ha
      have ha2 : r = [Frame.throwing a] := by
        have h3 := congrArg List.reverse ha
        simpa using h3
      subst ha2
      cases hb
  · cases h
theorem wd_within : (List.range 15).all (fun n => wd_in (wd_run n).frames) = true := by decide +kernel
set_option maxRecDepth 16384 in
theorem wd_refuted : RefutedClaimed_1_1 :=
  ⟨launch0, start1.p0, start1.e0, wd_about, ⟨0, 0⟩, start1.args0, Lib.HandBits.below0, rfl, wd_start, 15, Outcome.threw 3,
    fun k hk => wd_in_eq (List.all_eq_true.mp wd_within k (List.mem_range.mpr hk)), wd_runs, wd_ended,
    fun h => by obtain ⟨-, ⟨v, hv⟩, -⟩ := h; cases hv⟩
theorem wd_not : ¬ (Claimed_1_1 ∧ Claimed_1_2) := by
  intro hc
  obtain ⟨n, o, hw, hr, he, hp⟩ := hc.1 launch0 rfl lists_1 trivial start1.p0 start1.e0 (launch0.admits_env _ _ _) fairChoices_fair.cas fairChoices_fair.clock wd_about ⟨0, 0⟩ start1.args0 Lib.HandBits.below0 rfl wd_args wd_heap wd_start.2.2.2.2.2.2.2.2.2.1 ⟨trivial, wd_rest, wd_premises⟩
  obtain ⟨-, ⟨v, hv⟩, -⟩ := hp
  subst hv
  have hf : (wd_run 15).frames = Frame.throwing 3 :: Lib.HandBits.below0 := wd_left_eq wd_threw
  have he' : (wd_run n).frames.length = 1 := by
    have h1 : (wd_run n).frames = _ := he
    rw [h1]; rfl
  by_cases h1 : n < 15
  · have h2 := List.all_eq_true.mp wd_inside n (List.mem_range.mpr h1)
    rw [decide_eq_true_eq] at h2
    omega
  · by_cases h2 : n = 15
    · subst h2
      rw [hf] at he'
      exact absurd he' (by decide)
    · obtain ⟨above, h3, h4, h5⟩ := hw 15 (by omega)
      have h6 : Frame.throwing 3 :: Lib.HandBits.below0 = above ++ Lib.HandBits.below0 := hf.symm.trans h3
      have h7 : [Frame.throwing 3] ++ Lib.HandBits.below0 = above ++ Lib.HandBits.below0 := h6
      exact h5 3 (List.append_cancel_right h7).symm
