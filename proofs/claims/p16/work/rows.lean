section
def wd_clone : Method := Lib.HandJ.method "clone" "()Ljava/lang/Object;" [] (some (.object "java/lang/Object")) 0x1 1 (.mk #[0x2a, 0xbf])
def wd_kind : Class := { start1.cArr "another array class" 17 .int with methods := #[wd_clone], interfaces := #[10] }
def wd_about : State :=
  { start1.aboutOf #[] with
    vm := { (start1.aboutOf #[]).vm with classes := (start1.aboutOf #[]).vm.classes.push wd_kind }
    heap := (start1.aboutOf #[]).heap.setIfInBounds 3 { cls := 24, slots := #[.int 5, .int 10, .int 20, .int 100, .int 2, .int 1], vm := .none } }
def wd_run (n : Nat) : State := stepsAlone start1.p0.tables start1.e0 n wd_about
def wd_left : List Frame → Bool
  | [.throwing a, .native g] => decide (a = 3) && decide (g.method = ⟨0, 0⟩) && decide (g.args.toList = []) && decide (g.stage = 0) && decide (g.saved.toList = []) && !g.awaiting && g.answer.isNone && g.locked.isNone && decide (g.words = 0)
  | _ => false
theorem wd_left_eq {l : List Frame} (h : wd_left l = true) : l = Frame.throwing 3 :: Lib.HandBits.below0 := by
  unfold wd_left at h
  split at h
  · rename_i a g
    obtain ⟨m, ar, st, sv, aw, an, lk, wo⟩ := g
    simp only [Bool.and_eq_true, decide_eq_true_eq, Bool.not_eq_true', Option.isNone_iff_eq_none, Array.toList_eq_nil_iff] at h
    obtain ⟨⟨⟨⟨⟨⟨⟨⟨h1, h2⟩, h3⟩, h4⟩, h5⟩, h6⟩, h7⟩, h8⟩, h9⟩ := h
    subst h1 h2 h3 h4 h5 h6 h7 h8 h9
    rfl
  · cases h
theorem wd_premises : (Cond.and given_1 narrow_1).before start1.args0 wd_about = true := by decide +kernel
theorem wd_rest : rest_1_c.before start1.args0 wd_about = true := by decide +kernel
theorem wd_heap : heapFits wd_about = true := by decide +kernel
theorem wd_args : argsFit wd_about.vm ⟨0, 0⟩ start1.args0 = true := by decide +kernel
theorem wd_threw : wd_left (wd_run 15).frames = true := by decide +kernel
theorem wd_runs : (wd_run 15).status = .running := by decide +kernel
theorem wd_inside : (List.range 15).all (fun n => decide (2 ≤ (wd_run n).frames.length)) = true := by decide +kernel
def wd_ok : Jvm.Cond → Bool
  | .code x _ _ _ => decide (wd_about.methodNamed? x = start1.about.methodNamed? x) && (start1.about.methodNamed? x).any fun m => decide (m.cls < 24)
  | _ => false
theorem wd_classes : wd_about.vm.classes = start1.about.vm.classes.push wd_kind := rfl
theorem wd_size : start1.about.vm.classes.size = 24 := rfl
theorem wd_method {m : MethodId} (h : m.cls < 24) : wd_about.vm.method? m = start1.about.vm.method? m := by
  unfold Vm.method?
  rw [wd_classes, Array.getElem?_push_lt (by rw [wd_size]; exact h), Array.getElem?_eq_getElem (by rw [wd_size]; exact h)]
theorem wd_word {c : Jvm.Cond} (hk : wd_ok c = true) (h : c.before start1.args0 start1.about = true) : c.before start1.args0 wd_about = true := by
  unfold wd_ok at hk
  split at hk
  · rename_i x b ml r
    rw [Bool.and_eq_true, decide_eq_true_eq] at hk
    obtain ⟨h1, h2⟩ := hk
    cases hm : start1.about.methodNamed? x with
    | none => rw [hm] at h2; cases h2
    | some m =>
      rw [hm] at h1 h2
      have h3 : m.cls < 24 := by simpa using h2
      have h4 : (wd_about.methodNamed? x).bind wd_about.vm.method? = (start1.about.methodNamed? x).bind start1.about.vm.method? := by
        rw [h1, hm]; exact wd_method h3
      revert h
      simp only [Cond.before, Cond.holds, Cond.value]
      rw [h4]
      exact id
  · cases hk
end
section
set_option maxRecDepth 16384 in
theorem wd_w1_0 : List.all (tables_1_1.take 40) (fun c => wd_ok c || c.before start1.args0 wd_about) = true := by decide +kernel
set_option maxRecDepth 16384 in
theorem wd_w1_1 : List.all ((tables_1_1.drop 40).take 40) (fun c => wd_ok c || c.before start1.args0 wd_about) = true := by decide +kernel
set_option maxRecDepth 16384 in
theorem wd_w1_2 : List.all (((tables_1_1.drop 40).drop 40).take 40) (fun c => wd_ok c || c.before start1.args0 wd_about) = true := by decide +kernel
set_option maxRecDepth 16384 in
theorem wd_w1_3 : List.all ((((tables_1_1.drop 40).drop 40).drop 40).take 40) (fun c => wd_ok c || c.before start1.args0 wd_about) = true := by decide +kernel
set_option maxRecDepth 16384 in
theorem wd_w1_4 : List.all (((((tables_1_1.drop 40).drop 40).drop 40).drop 40).take 40) (fun c => wd_ok c || c.before start1.args0 wd_about) = true := by decide +kernel
set_option maxRecDepth 16384 in
theorem wd_w1_5 : List.all (((((tables_1_1.drop 40).drop 40).drop 40).drop 40).drop 40) (fun c => wd_ok c || c.before start1.args0 wd_about) = true := by decide +kernel
theorem wd_w1 : List.all tables_1_1 (fun c => wd_ok c || c.before start1.args0 wd_about) = true := (start1.su_all_split _ 40 tables_1_1 wd_w1_0 (start1.su_all_split _ 40 (tables_1_1.drop 40) wd_w1_1 (start1.su_all_split _ 40 ((tables_1_1.drop 40).drop 40) wd_w1_2 (start1.su_all_split _ 40 (((tables_1_1.drop 40).drop 40).drop 40) wd_w1_3 (start1.su_all_split _ 40 ((((tables_1_1.drop 40).drop 40).drop 40).drop 40) wd_w1_4 wd_w1_5)))))
set_option maxRecDepth 16384 in
theorem wd_w2_0 : List.all (tables_1_2.take 40) (fun c => wd_ok c || c.before start1.args0 wd_about) = true := by decide +kernel
set_option maxRecDepth 16384 in
theorem wd_w2_1 : List.all ((tables_1_2.drop 40).take 40) (fun c => wd_ok c || c.before start1.args0 wd_about) = true := by decide +kernel
set_option maxRecDepth 16384 in
theorem wd_w2_2 : List.all (((tables_1_2.drop 40).drop 40).take 40) (fun c => wd_ok c || c.before start1.args0 wd_about) = true := by decide +kernel
set_option maxRecDepth 16384 in
theorem wd_w2_3 : List.all ((((tables_1_2.drop 40).drop 40).drop 40).take 40) (fun c => wd_ok c || c.before start1.args0 wd_about) = true := by decide +kernel
set_option maxRecDepth 16384 in
theorem wd_w2_4 : List.all (((((tables_1_2.drop 40).drop 40).drop 40).drop 40).take 40) (fun c => wd_ok c || c.before start1.args0 wd_about) = true := by decide +kernel
set_option maxRecDepth 16384 in
theorem wd_w2_5 : List.all (((((tables_1_2.drop 40).drop 40).drop 40).drop 40).drop 40) (fun c => wd_ok c || c.before start1.args0 wd_about) = true := by decide +kernel
theorem wd_w2 : List.all tables_1_2 (fun c => wd_ok c || c.before start1.args0 wd_about) = true := (start1.su_all_split _ 40 tables_1_2 wd_w2_0 (start1.su_all_split _ 40 (tables_1_2.drop 40) wd_w2_1 (start1.su_all_split _ 40 ((tables_1_2.drop 40).drop 40) wd_w2_2 (start1.su_all_split _ 40 (((tables_1_2.drop 40).drop 40).drop 40) wd_w2_3 (start1.su_all_split _ 40 ((((tables_1_2.drop 40).drop 40).drop 40).drop 40) wd_w2_4 wd_w2_5)))))
set_option maxRecDepth 16384 in
theorem wd_w3_0 : List.all (tables_1_3.take 40) (fun c => wd_ok c || c.before start1.args0 wd_about) = true := by decide +kernel
set_option maxRecDepth 16384 in
theorem wd_w3_1 : List.all ((tables_1_3.drop 40).take 40) (fun c => wd_ok c || c.before start1.args0 wd_about) = true := by decide +kernel
set_option maxRecDepth 16384 in
theorem wd_w3_2 : List.all (((tables_1_3.drop 40).drop 40).take 40) (fun c => wd_ok c || c.before start1.args0 wd_about) = true := by decide +kernel
set_option maxRecDepth 16384 in
theorem wd_w3_3 : List.all ((((tables_1_3.drop 40).drop 40).drop 40).take 40) (fun c => wd_ok c || c.before start1.args0 wd_about) = true := by decide +kernel
set_option maxRecDepth 16384 in
theorem wd_w3_4 : List.all (((((tables_1_3.drop 40).drop 40).drop 40).drop 40).take 40) (fun c => wd_ok c || c.before start1.args0 wd_about) = true := by decide +kernel
set_option maxRecDepth 16384 in
theorem wd_w3_5 : List.all (((((tables_1_3.drop 40).drop 40).drop 40).drop 40).drop 40) (fun c => wd_ok c || c.before start1.args0 wd_about) = true := by decide +kernel
theorem wd_w3 : List.all tables_1_3 (fun c => wd_ok c || c.before start1.args0 wd_about) = true := (start1.su_all_split _ 40 tables_1_3 wd_w3_0 (start1.su_all_split _ 40 (tables_1_3.drop 40) wd_w3_1 (start1.su_all_split _ 40 ((tables_1_3.drop 40).drop 40) wd_w3_2 (start1.su_all_split _ 40 (((tables_1_3.drop 40).drop 40).drop 40) wd_w3_3 (start1.su_all_split _ 40 ((((tables_1_3.drop 40).drop 40).drop 40).drop 40) wd_w3_4 wd_w3_5)))))
set_option maxRecDepth 16384 in
theorem wd_w4_0 : List.all (tables_1_4.take 40) (fun c => wd_ok c || c.before start1.args0 wd_about) = true := by decide +kernel
set_option maxRecDepth 16384 in
theorem wd_w4_1 : List.all (tables_1_4.drop 40) (fun c => wd_ok c || c.before start1.args0 wd_about) = true := by decide +kernel
theorem wd_w4 : List.all tables_1_4 (fun c => wd_ok c || c.before start1.args0 wd_about) = true := (start1.su_all_split _ 40 tables_1_4 wd_w4_0 wd_w4_1)
theorem wd_one {l : List Jvm.Cond} (h : List.all l (fun c => wd_ok c || c.before start1.args0 wd_about) = true) (hw : ∀ c ∈ l, c.before start1.args0 start1.about = true) : ∀ c ∈ l, c.before start1.args0 wd_about = true := by
  intro c hc
  have h1 := List.all_eq_true.mp h c hc
  rw [Bool.or_eq_true] at h1
  rcases h1 with h1 | h1
  · exact wd_word h1 (hw c hc)
  · exact h1
theorem wd_words : ∀ c ∈ (Cond.code x code maxLocals ret :: tables_1), c.before start1.args0 wd_about = true := by
  intro c hc
  rcases List.mem_cons.mp hc with h | h
  · rw [h]; exact wd_word (by decide +kernel) start1.word_code
  · have h1 : c ∈ tables_1_1 ++ (tables_1_2 ++ (tables_1_3 ++ tables_1_4)) := h
    rcases List.mem_append.mp h1 with h2 | h1
    · exact wd_one wd_w1 start1.words_1 c h2
    rcases List.mem_append.mp h1 with h2 | h1
    · exact wd_one wd_w2 start1.words_2 c h2
    rcases List.mem_append.mp h1 with h2 | h1
    · exact wd_one wd_w3 start1.words_3 c h2
    exact wd_one wd_w4 start1.words_4 c h1
end
section
set_option maxRecDepth 16384 in
theorem wd_start : AtStart classFile x code maxLocals ret World_1 tables_1 room_1 Calls_1 rest_1 Pre_1 launch0 start1.p0 start1.e0 wd_about ⟨0, 0⟩ start1.args0 Lib.HandBits.below0 :=
  ⟨lists_1, trivial, launch0.admits_env _ _ _, launch0.least_env, fairChoices_fair.cas, fairChoices_fair.clock, rfl, wd_args, wd_heap,
    (Spec.applies_iff rfl).mpr ⟨rfl, rfl, rfl, by decide +kernel, by decide +kernel, by decide +kernel, launch0.hasRoom_least _ room_1 (by decide +kernel) (by decide +kernel) (by decide +kernel) (by decide +kernel) (by decide +kernel) (by decide +kernel), atoms_intro wd_words⟩,
    trivial, wd_rest, wd_premises⟩
theorem wd_ended : Ended (wd_run 15) Lib.HandBits.below0 (Outcome.threw 3) := wd_left_eq wd_threw
def wd_in (l : List Frame) : Bool :=
  match l.reverse with
  | .native g :: r => decide (g.method = ⟨0, 0⟩) && decide (g.args.toList = []) && decide (g.stage = 0) && decide (g.saved.toList = []) && !g.awaiting && g.answer.isNone && g.locked.isNone && decide (g.words = 0) &&
      (match r with
       | [] => false
       | [.throwing _] => false
       | _ => true)
  | _ => false
theorem wd_in_eq {s : State} (h : wd_in s.frames = true) : Within s Lib.HandBits.below0 := by
  unfold wd_in at h
  split at h
  · rename_i g r hr
    rw [Bool.and_eq_true] at h
    obtain ⟨h0, hb⟩ := h
    have hl : s.frames = r.reverse ++ [Frame.native g] := by
      have h2 := congrArg List.reverse hr
      rw [List.reverse_reverse, List.reverse_cons] at h2
      exact h2
    have hg : Frame.native g :: [] = Lib.HandBits.below0 := by
      obtain ⟨m, ar, st, sv, aw, an, lk, wo⟩ := g
      simp only [Bool.and_eq_true, decide_eq_true_eq, Bool.not_eq_true', Option.isNone_iff_eq_none, Array.toList_eq_nil_iff] at h0
      obtain ⟨⟨⟨⟨⟨⟨⟨h2, h3⟩, h4⟩, h5⟩, h6⟩, h7⟩, h8⟩, h9⟩ := h0
      subst h2 h3 h4 h5 h6 h7 h8 h9
      rfl
    refine ⟨r.reverse, by rw [hl, hg], ?_, ?_⟩
    · intro hn
      have hn2 : r = [] := by simpa using hn
      subst hn2
      cases hb
    · intro a ha
      have ha2 : r = [Frame.throwing a] := by
        have h3 := congrArg List.reverse ha
        simpa using h3
      subst ha2
      cases hb
  · cases h
theorem wd_within : (List.range 15).all (fun n => wd_in (wd_run n).frames) = true := by decide +kernel
set_option maxRecDepth 16384 in
theorem wd_refuted : RefutedClaimed_1_1 :=
  ⟨launch0, start1.p0, start1.e0, wd_about, ⟨0, 0⟩, start1.args0, Lib.HandBits.below0, rfl, wd_start, 15, Outcome.threw 3,
    fun k hk => wd_in_eq (List.all_eq_true.mp wd_within k (List.mem_range.mpr hk)), wd_runs, wd_ended,
    fun h => by obtain ⟨-, ⟨v, hv⟩, -⟩ := h; cases hv⟩
theorem wd_not : ¬ (Claimed_1_1 ∧ Claimed_1_2) := by
  intro hc
  obtain ⟨n, o, hw, hr, he, hp⟩ := hc.1 launch0 rfl lists_1 trivial start1.p0 start1.e0 (launch0.admits_env _ _ _) fairChoices_fair.cas fairChoices_fair.clock wd_about ⟨0, 0⟩ start1.args0 Lib.HandBits.below0 rfl wd_args wd_heap wd_start.2.2.2.2.2.2.2.2.2.1 ⟨trivial, wd_rest, wd_premises⟩
  obtain ⟨-, ⟨v, hv⟩, -⟩ := hp
  subst hv
  have hf : (wd_run 15).frames = Frame.throwing 3 :: Lib.HandBits.below0 := wd_left_eq wd_threw
  have he' : (wd_run n).frames.length = 1 := by
    have h1 : (wd_run n).frames = _ := he
    rw [h1]; rfl
  by_cases h1 : n < 15
  · have h2 := List.all_eq_true.mp wd_inside n (List.mem_range.mpr h1)
    rw [decide_eq_true_eq] at h2
    omega
  · by_cases h2 : n = 15
    · subst h2
      rw [hf] at he'
      exact absurd he' (by decide)
    · obtain ⟨above, h3, h4, h5⟩ := hw 15 (by omega)
      have h6 : Frame.throwing 3 :: Lib.HandBits.below0 = above ++ Lib.HandBits.below0 := hf.symm.trans h3
      have h7 : [Frame.throwing 3] ++ Lib.HandBits.below0 = above ++ Lib.HandBits.below0 := h6
      exact h5 3 (List.append_cancel_right h7).symm
end
