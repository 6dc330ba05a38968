def wd_clone : Method := Lib.HandJ.method "clone" "()Ljava/lang/Object;" [] (some (.object "java/lang/Object")) 0x1 1 (.mk #[0x2a, 0xbf])
def wd_kind : Class := { start1.cArr "another array class" 17 .int with methods := #[wd_clone], interfaces := #[10] }
def wd_about : State :=
  { start1.aboutOf #[] with
    vm := { (start1.aboutOf #[]).vm with classes := (start1.aboutOf #[]).vm.classes.push wd_kind }
    heap := (start1.aboutOf #[]).heap.setIfInBounds 3 { cls := 24, slots := #[.int 5, .int 10, .int 20, .int 100, .int 2, .int 1], vm := .none } }
def wd_run (n : Nat) : State := stepsAlone start1.p0.tables start1.e0 n wd_about
def wd_left : List Frame → Bool
  | [.throwing a, .native g] => decide (a = 3) && decide (g.method = ⟨0, 0⟩) && decide (g.args.toList = []) && decide (g.stage = 0) && decide (g.saved.toList = []) && !g.awaiting && g.answer.isNone && g.locked.isNone && decide (g.words = 0)
  | _ => false
theorem wd_left_eq {l : List Frame} (h : wd_left l = true) : l = Frame.throwing 3 :: Lib.HandBits.below0 := by
  unfold wd_left at h
  split at h
  · rename_i a g
    obtain ⟨m, ar, st, sv, aw, an, lk, wo⟩ := g
    simp only [Bool.and_eq_true, decide_eq_true_eq, Bool.not_eq_true', Option.isNone_iff_eq_none, Array.toList_eq_nil_iff] at h
    obtain ⟨⟨⟨⟨⟨⟨⟨⟨h1, h2⟩, h3⟩, h4⟩, h5⟩, h6⟩, h7⟩, h8⟩, h9⟩ := h
    subst h1 h2 h3 h4 h5 h6 h7 h8 h9
    rfl
  · cases h
theorem wd_premises : (Cond.and given_1 narrow_1).before start1.args0 wd_about = true := by decide +kernel
theorem wd_rest : rest_1_c.before start1.args0 wd_about = true := by decide +kernel
theorem wd_heap : heapFits wd_about = true := by decide +kernel
theorem wd_args : argsFit wd_about.vm ⟨0, 0⟩ start1.args0 = true := by decide +kernel
theorem wd_threw : wd_left (wd_run 15).frames = true := by decide +kernel
theorem wd_runs : (wd_run 15).status = .running := by decide +kernel
theorem wd_inside : (List.range 15).all (fun n => decide (2 ≤ (wd_run n).frames.length)) = true := by decide +kernel
def wd_ok : Jvm.Cond → Bool
  | .code x _ _ _ => decide (wd_about.methodNamed? x = start1.about.methodNamed? x) && (start1.about.methodNamed? x).any fun m => decide (m.cls < 24)
  | _ => false
theorem wd_classes : wd_about.vm.classes = start1.about.vm.classes.push wd_kind := rfl
theorem wd_size : start1.about.vm.classes.size = 24 := rfl
theorem wd_method {m : MethodId} (h : m.cls < 24) : wd_about.vm.method? m = start1.about.vm.method? m := by
  unfold Vm.method?
  rw [wd_classes, Array.getElem?_push_lt (by rw [wd_size]; exact h), Array.getElem?_eq_getElem (by rw [wd_size]; exact h)]
theorem wd_word {c : Jvm.Cond} (hk : wd_ok c = true) (h : c.before start1.args0 start1.about = true) : c.before start1.args0 wd_about = true := by
  unfold wd_ok at hk
  split at hk
  · rename_i x b ml r
    rw [Bool.and_eq_true, decide_eq_true_eq] at hk
    obtain ⟨h1, h2⟩ := hk
    cases hm : start1.about.methodNamed? x with
    | none => rw [hm] at h2; cases h2
    | some m =>
      rw [hm] at h1 h2
      have h3 : m.cls < 24 := by simpa using h2
      have h4 : (wd_about.methodNamed? x).bind wd_about.vm.method? = (start1.about.methodNamed? x).bind start1.about.vm.method? := by
        rw [h1, hm]; exact wd_method h3
      revert h
      simp only [Cond.before, Cond.holds, Cond.value]
      rw [h4]
      exact id
  · cases hk
