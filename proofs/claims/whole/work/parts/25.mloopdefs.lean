section MLD
def m_sh1 (st : MS) (k : Int32) : MS := (mA (mA (mA st 20 (upd (st.2 20) (k - 4).toNatClampNeg ((st.2 20) k.toNatClampNeg))) 21 (upd (st.2 21) (k - 4).toNatClampNeg ((st.2 21) k.toNatClampNeg))) 22 (upd (st.2 22) (k - 4).toNatClampNeg ((st.2 22) k.toNatClampNeg)))
def m_shift (st : MS) : Nat → MS
  | 0 => st
  | n + 1 => m_sh1 (m_shift st n) (nI (n + 4))
theorem inv_m_sh1 {st : MS} {k : Int32} (h : InvM st) : InvM (m_sh1 st k) := invm_mA (invm_mA (invm_mA h (by decide)) (by decide)) (by decide)
theorem inv_m_shift {st : MS} (h : InvM st) : ∀ n, InvM (m_shift st n)
  | 0 => h
  | n + 1 => inv_m_sh1 (inv_m_shift h n)
def m_log (st : MS) (p1 : Int32) (p2 : Int32) : MS := (if (st.1 23) = 16 then (mS (mA (mA (mA (mS (mS (m_shift st 12) 23 12) 24 1) 20 (upd ((m_shift st 12).2 20) (12 : Int32).toNatClampNeg p1)) 21 (upd ((m_shift st 12).2 21) (12 : Int32).toNatClampNeg ((m_shift st 12).1 1))) 22 (upd ((m_shift st 12).2 22) (12 : Int32).toNatClampNeg p2)) 23 (12 + 1)) else (mS (mA (mA (mA st 20 (upd (st.2 20) (st.1 23).toNatClampNeg p1)) 21 (upd (st.2 21) (st.1 23).toNatClampNeg (st.1 1))) 22 (upd (st.2 22) (st.1 23).toNatClampNeg p2)) 23 ((st.1 23) + 1)))
def m_dif (p1 p2 : Int32) : Nat → Int32
  | 0 => 0
  | n + 1 => if ((p1 >>> (nI n &&& 31)) &&& 1) = ((p2 >>> (nI n &&& 31)) &&& 1) then m_dif p1 p2 n else m_dif p1 p2 n + 1
def m_differing (p1 p2 : Int32) : Int32 := m_dif p1 p2 16
end MLD
