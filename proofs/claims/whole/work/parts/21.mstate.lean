/-! the reference's state: its numbers and its arrays, by the slots' numbers -/
section MSTATE
abbrev MS : Type := (Nat → Int32) × (Nat → Nat → Int32)
def mS (m : MS) (k : Nat) (x : Int32) : MS := (upd m.1 k x, m.2)
def mA (m : MS) (j : Nat) (f : Nat → Int32) : MS := (m.1, va_up m.2 j f)
def wM (bd : Nat → Nat) (G : gG) (m : MS) : va_W :=
  [(bd 0, .inr (3, [.int (m.1 0), .int (m.1 1), .ref (bd 2), .ref (bd 3), .ref (bd 4), .ref (bd 5), .ref (bd 6), .ref (bd 7), .ref (bd 8), .ref (bd 9), .ref (bd 10), .int (m.1 11), .int (m.1 12), .int (m.1 13), .int (m.1 14), .int (m.1 15), .int (m.1 16), .int (m.1 17), .int (m.1 18), .int (m.1 19), .ref (bd 20), .ref (bd 21), .ref (bd 22), .int (m.1 23), .int (m.1 24)])),
   (bd 2, .inl (G.2.1 0, 6, .inl (m.2 2))), (bd 3, .inl (G.2.1 0, 7, .inl (m.2 3))), (bd 4, .inl (G.2.1 3, 24, .inl (m.2 4))), (bd 5, .inl (G.2.1 0, 24, .inl (m.2 5))), (bd 6, .inl (G.2.1 0, 24, .inl (m.2 6))), (bd 7, .inl (G.2.1 0, 24, .inl (m.2 7))), (bd 8, .inl (G.2.1 0, 24, .inl (m.2 8))), (bd 9, .inl (G.2.1 0, 24, .inl (m.2 9))), (bd 10, .inl (G.2.1 0, 24, .inl (m.2 10))),
   (bd 20, .inl (G.2.1 0, 16, .inl (m.2 20))), (bd 21, .inl (G.2.1 0, 16, .inl (m.2 21))), (bd 22, .inl (G.2.1 0, 16, .inl (m.2 22)))]
def InvM (m : MS) : Prop := (∀ k, k < 24 → vp_in (m.2 5 k) 7) ∧ vp_in (m.1 23) 17 ∧ tokOK (m.1 11) ∧ tokOK (m.1 12)
def RI (m : MS) : Prop := ¬ m.1 16 = 0 → vp_in (m.1 12) 6
theorem invm_mS {m : MS} {k : Nat} {x : Int32} (h : InvM m) (hk : 23 ≠ k ∧ 11 ≠ k ∧ 12 ≠ k) : InvM (mS m k x) := by
  refine ⟨h.1, ?_, ?_, ?_⟩
  · show vp_in (upd m.1 k x 23) 17
    rw [pk_un hk.1]; exact h.2.1
  · show tokOK (upd m.1 k x 11)
    rw [pk_un hk.2.1]; exact h.2.2.1
  · show tokOK (upd m.1 k x 12)
    rw [pk_un hk.2.2]; exact h.2.2.2
theorem invm_tok11 {m : MS} {x : Int32} (h : InvM m) (hx : tokOK x) : InvM (mS m 11 x) := ⟨h.1, h.2.1, hx, h.2.2.2⟩
theorem invm_tok12 {m : MS} {x : Int32} (h : InvM m) (hx : tokOK x) : InvM (mS m 12 x) := ⟨h.1, h.2.1, h.2.2.1, hx⟩
theorem invm_size {m : MS} {x : Int32} (h : InvM m) (hx : vp_in x 17) : InvM (mS m 23 x) := ⟨h.1, hx, h.2.2.1, h.2.2.2⟩
theorem invm_mA {m : MS} {j : Nat} {f : Nat → Int32} (h : InvM m) (hj : 5 ≠ j) : InvM (mA m j f) := by
  refine ⟨fun k hk => ?_, h.2⟩
  show vp_in (va_up m.2 j f 5 k) 7
  unfold va_up
  rw [if_neg hj]
  exact h.1 k hk
theorem invm_mA5 {m : MS} {i : Nat} {x : Int32} (h : InvM m) (hx : vp_in x 7) : InvM (mA m 5 (upd (m.2 5) i x)) := by
  refine ⟨fun k hk => ?_, h.2⟩
  show vp_in (upd (m.2 5) i x k) 7
  unfold upd
  split
  · exact hx
  · exact h.1 k hk
theorem ri_mS {m : MS} {k : Nat} {x : Int32} (h : RI m) (hk : 16 ≠ k ∧ 12 ≠ k) : RI (mS m k x) := by
  intro h1
  have h1 : ¬ upd m.1 k x 16 = 0 := h1
  show vp_in (upd m.1 k x 12) 6
  rw [pk_un hk.1] at h1
  rw [pk_un hk.2]
  exact h h1
theorem z_cl {p : Int32} {n : Nat} (h : vp_in p n) : p.toNatClampNeg < n := by
  unfold vp_in at h
  omega
theorem z_m4 {t : Int32} (h : vp_in t 6) : ∃ j : Nat, j < 6 ∧ 4 * t = nI (4 * j) ∧ t = nI j := by
  obtain ⟨j, hj, rfl⟩ := vp_in_of h (by decide)
  exact ⟨j, hj, by rw [show (4 : Int32) = nI 4 from rfl, pk_mul], rfl⟩
theorem z_m0 {t : Int32} (h : vp_in t 6) : vp_in (4 * t) 24 := by
  obtain ⟨j, hj, e, -⟩ := z_m4 h
  rw [e]; exact vp_in_nI (by omega) (by decide)
theorem z_mx {t k : Int32} (h : vp_in t 6) (hk : vp_in k 4) : vp_in ((4 * t) + k) 24 := by
  obtain ⟨j, hj, e, -⟩ := z_m4 h
  obtain ⟨i, hi, rfl⟩ := vp_in_of hk (by decide)
  rw [e, nI_add]; exact vp_in_nI (by omega) (by decide)
theorem z_m1 {t : Int32} (h : vp_in t 6) : vp_in ((4 * t) + 1) 24 := z_mx h (by unfold vp_in; decide)
theorem z_m2 {t : Int32} (h : vp_in t 6) : vp_in ((4 * t) + 2) 24 := z_mx h (by unfold vp_in; decide)
theorem z_m3 {t : Int32} (h : vp_in t 6) : vp_in ((4 * t) + 3) 24 := z_mx h (by unfold vp_in; decide)
theorem tok_ge {t : Int32} (h : tokOK t) (h1 : ¬ t < 0) : vp_in t 6 := by
  rcases h with rfl | h
  · exact absurd (by decide) h1
  · exact h
theorem entm {m : MS} {p1 : Int32} (hI : InvM m) (h0 : ¬ p1 < 0) (h1 : p1 < m.1 23) : vp_in p1 16 := by
  obtain ⟨j, hj, e⟩ := vp_in_of hI.2.1 (by decide)
  rw [e] at h1
  rw [vp_in_iff]
  rw [Int32.lt_iff_toInt_lt, nI_toInt (by omega)] at h1
  rw [Int32.lt_iff_toInt_lt, Int32.toInt_zero] at h0
  omega
theorem z_wsM {x : Int32} (h : vp_in x 17) (h1 : ¬ x = 16) : vp_in x 16 := by
  obtain ⟨j, hj, rfl⟩ := vp_in_of h (by decide)
  have : j ≠ 16 := fun e => h1 (by rw [e]; rfl)
  exact vp_in_nI (by omega) (by decide)
theorem z_tout7 {x : Int32} (h0 : ¬ x = 0) (h1 : ¬ x = 1) (h2 : ¬ x = 2) (h3 : ¬ x = 3) (h4 : ¬ x = 4) (h5 : ¬ x = 5) (h6 : ¬ x = 6) : x.toInt < 0 ∨ 6 < x.toInt := by
  have a := z_tout6 h0 h1 h2 h3 h4 h5; have a6 := z_ti h6
  rw [show (6 : Int32).toInt = 6 by decide] at a6
  omega
end MSTATE
