section LD
def f_enr (st : CS) : Nat → Int32
  | 0 => 0
  | n + 1 => if f_isEnrolled st (nI n) = 0 then f_enr st n else f_enr st n + 1
def f_enrolledIssuers (st : CS) : Int32 := f_enr st 6
def f_start (st : CS)  : String ⊕ (Int32 × CS) := (if (st.1 5) = 0 then (if (f_enrolledIssuers st) = 0 then .inl "java/lang/IllegalStateException" else (if (st.1 8) = (-1) then (if (st.1 9) = (-1) then .inr ((f_enrolledIssuers st), (f_write (sS (f_becomeUserState (sS st 5 1) 0) 10 0) 1 ((f_becomeUserState (sS st 5 1) 0).1 4) (-1))) else .inl "java/lang/IllegalStateException") else .inl "java/lang/IllegalStateException")) else .inl "java/lang/IllegalStateException")
def f_sec (st : CS) : CS := f_endAdministrationInTime (f_endWaitingInTime (sS st 4 ((st.1 4) + 1)))
def f_secs (st : CS) : Nat → CS
  | 0 => st
  | n + 1 => f_sec (f_secs st n)
def f_pass (st : CS) (p1 : Int32) : String ⊕ (Int32 × CS) := (if (f_isWithin p1 1 1000) = 0 then .inl "java/lang/IllegalArgumentException" else (if p1 ≤ (100000 - (st.1 4)) then .inr (((f_secs st p1.toNatClampNeg).1 4), f_secs st p1.toNatClampNeg) else .inl "java/lang/IllegalArgumentException"))
theorem inv_f_sec {st : CS} (h : InvC st) : InvC (f_sec st) := inv_f_endAdministrationInTime (inv_f_endWaitingInTime (inv_sS h (by decide)))
theorem inv_f_secs {st : CS} (h : InvC st) : ∀ n, InvC (f_secs st n)
  | 0 => h
  | n + 1 => inv_f_sec (inv_f_secs h n)
theorem win_1 {x hi : Int32} (h : ¬ f_isWithin x 1 hi = 0) : ∃ j : Nat, j < 2 ^ 31 ∧ x = nI j := by
  unfold f_isWithin at h
  by_cases h1 : x < 1
  · rw [if_pos h1] at h; exact absurd rfl h
  · refine nI_of (fun h2 => h1 ?_)
    rw [Int32.lt_iff_toInt_lt] at h2 ⊢
    rw [Int32.toInt_zero] at h2
    rw [show (1 : Int32).toInt = 1 by decide]
    omega
end LD
