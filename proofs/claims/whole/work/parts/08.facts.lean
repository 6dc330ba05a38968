/-! what the tests give, and that no method leaves the state's bounds -/
section FACTS
theorem win_in {x hi : Int32} {n : Nat} (h : ¬ f_isWithin x 0 hi = 0) (hn : hi.toInt < (n : Int)) : vp_in x n := by
  unfold f_isWithin at h
  rw [vp_in_iff]
  by_cases h1 : x < 0
  · rw [if_pos h1] at h; exact absurd rfl h
  · rw [if_neg h1] at h
    by_cases h2 : hi < x
    · rw [if_pos h2] at h; exact absurd rfl h
    · rw [Int32.lt_iff_toInt_lt] at h1 h2
      rw [Int32.toInt_zero] at h1
      omega
theorem acn_all {p1 p2 p3 p4 p5 p6 : Int32} (h : ¬ f_areCertificateNumbers p1 p2 p3 p4 p5 p6 = 0) : ¬ f_isWithin p1 0 3 = 0 ∧ ¬ f_isWithin p2 0 6 = 0 ∧ ¬ f_isWithin p3 0 99 = 0 ∧ ¬ f_isWithin p4 0 65535 = 0 ∧ ¬ f_isWithin p5 0 100000 = 0 ∧ ¬ f_isWithin p6 0 100000 = 0 := by
  unfold f_areCertificateNumbers at h
  refine ⟨fun h1 => ?_, fun h1 => ?_, fun h1 => ?_, fun h1 => ?_, fun h1 => ?_, fun h1 => ?_⟩ <;> (apply h; simp [h1])
theorem acn_iss {p1 p2 p3 p4 p5 p6 : Int32} (h : ¬ f_areCertificateNumbers p1 p2 p3 p4 p5 p6 = 0) : vp_in p2 7 := win_in (acn_all h).2.1 (by decide)
theorem acn_kind {p1 p2 p3 p4 p5 p6 : Int32} (h : ¬ f_areCertificateNumbers p1 p2 p3 p4 p5 p6 = 0) : vp_in p1 4 := win_in (acn_all h).1 (by decide)
theorem rtk_in {p1 : Int32} (h : f_requireToken p1 = none) : vp_in p1 6 := by
  unfold f_requireToken at h
  by_cases h1 : f_isWithin p1 0 5 = 0
  · rw [if_pos h1] at h; cases h
  · exact win_in h1 (by decide)
theorem ent_in {st : CS} {p1 : Int32} (hI : InvC st) (h : ¬ f_isWithin p1 0 (st.1 14 - 1) = 0) : vp_in p1 16 := by
  obtain ⟨j, hj, e⟩ := vp_in_of hI.2.2.1 (by decide)
  refine win_in h ?_
  rw [e, show (1 : Int32) = nI 1 from rfl, pk_sub_toInt (by omega) (by omega)]
  omega
theorem cof_mem {st : CS} (hI : InvC st) {t k : Int32} : ∀ a, f_certificateOf st t k = some a → a ∈ st.2.2.2.1 := by
  intro a h
  unfold f_certificateOf at h
  by_cases h1 : t = -1
  · rw [if_pos h1] at h; cases h
  · rw [if_neg h1] at h
    exact hI.1 _ a h
theorem vfh_01 {st : CS} {p1 p2 : Int32} : f_isValidForIdHolder st p1 p2 = 0 ∨ f_isValidForIdHolder st p1 p2 = 1 := by
  unfold f_isValidForIdHolder
  generalize f_certificateOf st p1 0 = x
  generalize f_certificateOf st p1 p2 = y
  cases x with
  | none => exact Or.inl rfl
  | some a => cases y with
    | none => exact Or.inl rfl
    | some b =>
      rw [oel_some, oel_some]
      split
      · split
        · exact Or.inl rfl
        · split
          · exact Or.inl rfl
          · exact Or.inr rfl
      · exact Or.inl rfl
theorem inv_f_becomeUserState {st : CS} {x : Int32} (h : InvC st) : InvC (f_becomeUserState st x) := inv_sS (inv_sS h (by decide)) (by decide)
theorem inv_f_unlock {st : CS} (h : InvC st) : InvC (f_unlock st) := inv_sS (inv_sS h (by decide)) (by decide)
theorem inv_f_loseOldest {st : CS} (h : InvC st) : InvC (f_loseOldest st) := inv_sS (inv_sA (inv_sA (inv_sA (inv_size h (show vp_in 12 17 by unfold vp_in; decide))))) (by decide)
theorem inv_f_clear {st : CS} (h : InvC st) : InvC (f_clear st) := inv_sS (inv_size h (show vp_in 0 17 by unfold vp_in; decide)) (by decide)
theorem inv_f_write {st : CS} {a b c : Int32} (h : InvC st) : InvC (f_write st a b c) := by
  unfold f_write
  split
  · next h1 => exact inv_size (inv_sA (inv_sA (inv_sA h))) (z_ws2 h.2.2.1 h1)
  · exact inv_size (inv_sA (inv_sA (inv_sA (inv_f_loseOldest h)))) (show vp_in (12 + 1) 17 by unfold vp_in; decide)
theorem inv_f_writeAbout {st : CS} {a b : Int32} (h : InvC st) : InvC (f_writeAbout st a b) := by
  unfold f_writeAbout
  cases f_certificateOf st a 0 with
  | none => exact inv_f_write h
  | some q => exact inv_f_write h
theorem inv_f_allowEntry {st : CS} (h : InvC st) : InvC (f_allowEntry st) := inv_f_writeAbout (inv_f_becomeUserState h)
theorem inv_f_turnAway {st : CS} {k : Int32} (h : InvC st) : InvC (f_turnAway st k) := inv_f_writeAbout (inv_f_becomeUserState h)
theorem inv_f_dismissAdministrator {st : CS} (h : InvC st) : InvC (f_dismissAdministrator st) := inv_f_writeAbout (inv_sS h (by decide))
theorem inv_f_endWaitingInTime {st : CS} (h : InvC st) : InvC (f_endWaitingInTime st) := by
  unfold f_endWaitingInTime
  (repeat' split) <;> first | exact h | exact inv_f_turnAway h
theorem inv_f_endAdministrationInTime {st : CS} (h : InvC st) : InvC (f_endAdministrationInTime st) := by
  unfold f_endAdministrationInTime
  (repeat' split) <;> first | exact h | exact inv_f_dismissAdministrator h
end FACTS
section FACTS2
theorem cof_tok {st : CS} (hI : InvC st) {k : Int32} {a : Nat} (h : f_certificateOf st (st.1 8) k = some a) : vp_in (st.1 8) 6 := by
  unfold f_certificateOf at h
  by_cases h1 : st.1 8 = -1
  · rw [if_pos h1] at h; cases h
  · rcases hI.2.2.2.1 with h2 | h2
    · exact absurd h2 h1
    · exact h2
theorem inv_f_give {st : CS} {x : Int32} {a : Nat} (h : InvC st) (hm : a ∈ st.2.2.2.1) : InvC (f_give st x a) := inv_sM h hm
end FACTS2
