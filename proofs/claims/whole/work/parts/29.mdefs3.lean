section MD3
def m_enr (st : MS) : Nat → Int32
  | 0 => 0
  | n + 1 => if ((st.2 3) (nI n).toNatClampNeg) ≤ 0 then m_enr st n else m_enr st n + 1
def m_start (st : MS) : Int32 × MS := (if (st.1 13) = 0 then (if (m_enr st 6) = 0 then (0, (mS (mS st 0 0) 0 1)) else (if 0 ≤ (st.1 11) then (0, (mS (mS st 0 0) 0 1)) else (if (st.1 12) < 0 then ((m_enr st 6), (m_log (mS (mS (mS (mS st 0 0) 13 1) 14 0) 16 0) 1 (-1))) else (0, (mS (mS st 0 0) 0 1))))) else (0, (mS (mS st 0 0) 0 1)))
theorem inv_tail {X : MS} {a r v : Int32} (h : InvM X) : InvM (if r = 0 then X else if v = 0 then mS (m_note X 11 a) 16 0 else X) := by
  split
  · exact h
  · split
    · exact invm_mS (inv_m_note h) (by decide)
    · exact h
theorem ri_0 {m : MS} : RI (mS m 16 0) := fun h => absurd rfl h
theorem ri_tail {X : MS} {a r v : Int32} (h : RI X) : RI (if r = 0 then X else if v = 0 then mS (m_note X 11 a) 16 0 else X) := by
  split
  · exact h
  · split
    · exact ri_0
    · exact h
theorem inv_m_second {st : MS} (h : InvM st) : InvM (m_second st) := by
  have hA : InvM (mS st 1 ((st.1 1) + 1)) := invm_mS h (by decide)
  unfold m_second
  split
  · split
    · exact inv_tail hA
    · exact inv_tail (inv_m_note (inv_m_become hA))
  · split
    · split
      · exact inv_tail hA
      · exact inv_tail (inv_m_note (inv_m_become hA))
    · exact inv_tail hA
theorem ri_second {st : MS} (h : RI st) : RI (m_second st) := by
  have hA : RI (mS st 1 ((st.1 1) + 1)) := ri_mS h (by decide)
  unfold m_second
  split
  · split
    · exact ri_tail hA
    · exact ri_tail (ri_note (ri_become hA))
  · split
    · split
      · exact ri_tail hA
      · exact ri_tail (ri_note (ri_become hA))
    · exact ri_tail hA
def m_secs (st : MS) : Nat → MS
  | 0 => st
  | n + 1 => m_second (m_secs st n)
def m_pass (st : MS) (p1 : Int32) : Int32 × MS := (if (m_inn p1 1 1000) = 0 then (0, (mS (mS st 0 0) 0 1)) else (if ((st.1 1) + p1) ≤ 100000 then (((m_secs (mS st 0 0) p1.toNatClampNeg).1 1), (m_secs (mS st 0 0) p1.toNatClampNeg)) else (0, (mS (mS st 0 0) 0 1))))
end MD3
