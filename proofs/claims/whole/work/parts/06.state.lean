/-! the class's state: numbers (by the slot's number; 14, 15: the log's size and alarm), number arrays (0 configuration, 1 keys, 2 kinds, 3 times, 4 holders), the certificates' places, the pool of certificates and their fields -/
section STATE
abbrev CS : Type := (Nat → Int32) × (Nat → Nat → Int32) × (Nat → Option Nat) × List Nat × (Nat → Nat → Int32)
def sS (st : CS) (k : Nat) (x : Int32) : CS := (upd st.1 k x, st.2)
def sA (st : CS) (j : Nat) (f : Nat → Int32) : CS := (st.1, va_up st.2.1 j f, st.2.2)
def sM (st : CS) (i a : Nat) : CS := (st.1, st.2.1, va_up st.2.2.1 i (some a), st.2.2.2)
def sN (st : CS) (q : Nat) (w : Nat → Int32) : CS := (st.1, st.2.1, st.2.2.1, st.2.2.2.1 ++ [q], va_up st.2.2.2.2 q w)
def ceE (v : Nat → Nat → Int32) : Nat → va_E := fun a => .inr (0, [.int (v a 0), .int (v a 1), .int (v a 2), .int (v a 3), .int (v a 4), .int (v a 5), .int (v a 6)])
def wC (ad : Nat → Nat) (G : gG) (st : CS) : va_W :=
  [(ad 0, .inr (2, [.ref (ad 1), .ref (ad 2), .ref (ad 3), .ref (ad 4), .int (st.1 4), .int (st.1 5), .int (st.1 6), .int (st.1 7), .int (st.1 8), .int (st.1 9), .int (st.1 10), .int (st.1 11), .int (st.1 12), .int (st.1 13)])),
   (ad 1, .inl (G.2.1 0, 6, .inl (st.2.1 0))), (ad 2, .inl (G.2.1 0, 7, .inl (st.2.1 1))), (ad 3, .inl (G.2.1 1, 24, .inr (.inr (.inr (.inr st.2.2.1))))),
   (ad 4, .inr (1, [.ref (ad 5), .ref (ad 6), .ref (ad 7), .int (st.1 14), .int (st.1 15)])),
   (ad 5, .inl (G.2.1 0, 16, .inl (st.2.1 2))), (ad 6, .inl (G.2.1 0, 16, .inl (st.2.1 3))), (ad 7, .inl (G.2.1 0, 16, .inl (st.2.1 4)))] ++ va_pl st.2.2.2.1 (ceE st.2.2.2.2)
theorem z_pool {ad : Nat → Nat} {G : gG} {wr : va_W} {st : CS} {a : Nat} (h : a ∈ st.2.2.2.1) : ∃ k : Nat, (wC ad G st ++ wr)[k]? = some (a, .inr (0, [.int (st.2.2.2.2 a 0), .int (st.2.2.2.2 a 1), .int (st.2.2.2.2 a 2), .int (st.2.2.2.2 a 3), .int (st.2.2.2.2 a 4), .int (st.2.2.2.2 a 5), .int (st.2.2.2.2 a 6)])) :=
  List.getElem?_of_mem (List.mem_append_left _ (List.mem_append_right _ (List.mem_map.mpr ⟨a, h, rfl⟩)))
def tokOK (t : Int32) : Prop := t = -1 ∨ vp_in t 6
def InvC (st : CS) : Prop := (∀ k a, st.2.2.1 k = some a → a ∈ st.2.2.2.1) ∧ (∀ a, a ∈ st.2.2.2.1 → vp_in (st.2.2.2.2 a 1) 7 ∧ vp_in (st.2.2.2.2 a 0) 4) ∧ vp_in (st.1 14) 17 ∧ tokOK (st.1 8) ∧ tokOK (st.1 9)
theorem inv_sS {st : CS} {k : Nat} {x : Int32} (h : InvC st) (hk : 8 ≠ k ∧ 9 ≠ k ∧ 14 ≠ k) : InvC (sS st k x) := by
  refine ⟨h.1, h.2.1, ?_, ?_, ?_⟩
  · show vp_in (upd st.1 k x 14) 17
    rw [pk_un hk.2.2]; exact h.2.2.1
  · show tokOK (upd st.1 k x 8)
    rw [pk_un hk.1]; exact h.2.2.2.1
  · show tokOK (upd st.1 k x 9)
    rw [pk_un hk.2.1]; exact h.2.2.2.2
theorem inv_tok8 {st : CS} {x : Int32} (h : InvC st) (hx : tokOK x) : InvC (sS st 8 x) := ⟨h.1, h.2.1, h.2.2.1, hx, h.2.2.2.2⟩
theorem inv_tok9 {st : CS} {x : Int32} (h : InvC st) (hx : tokOK x) : InvC (sS st 9 x) := ⟨h.1, h.2.1, h.2.2.1, h.2.2.2.1, hx⟩
theorem inv_size {st : CS} {x : Int32} (h : InvC st) (hx : vp_in x 17) : InvC (sS st 14 x) := ⟨h.1, h.2.1, hx, h.2.2.2.1, h.2.2.2.2⟩
theorem inv_sA {st : CS} {j : Nat} {f : Nat → Int32} (h : InvC st) : InvC (sA st j f) := h
theorem inv_sM {st : CS} {i a : Nat} (h : InvC st) (ha : a ∈ st.2.2.2.1) : InvC (sM st i a) := by
  refine ⟨fun k b e => ?_, h.2.1, h.2.2.1, h.2.2.2.1, h.2.2.2.2⟩
  have e : va_up st.2.2.1 i (some a) k = some b := e
  unfold va_up at e
  split at e
  · cases e; exact ha
  · exact h.1 k b e
theorem inv_sN {st : CS} {q : Nat} {w : Nat → Int32} (h : InvC st) (h1 : vp_in (w 1) 7) (h0 : vp_in (w 0) 4) : InvC (sN st q w) := by
  refine ⟨fun k b e => List.mem_append_left _ (h.1 k b e), fun a ha => ?_, h.2.2.1, h.2.2.2.1, h.2.2.2.2⟩
  show vp_in (va_up st.2.2.2.2 q w a 1) 7 ∧ vp_in (va_up st.2.2.2.2 q w a 0) 4
  unfold va_up
  split
  · exact ⟨h1, h0⟩
  · next hne =>
    rcases List.mem_append.mp ha with h9 | h9
    · exact h.2.1 a h9
    · exact absurd (List.mem_singleton.mp h9) hne
theorem z_ix {p1 p2 : Int32} (h : tokOK p1) (h1 : ¬ p1 = -1) (h2 : vp_in p2 4) : vp_in (p1 * 4 + p2) 24 := by
  rcases h with h | h
  · exact absurd h h1
  · obtain ⟨j, hj, rfl⟩ := vp_in_of h (by decide)
    obtain ⟨k, hk, rfl⟩ := vp_in_of h2 (by decide)
    have e : nI j * 4 + nI k = nI (j * 4 + k) := by
      rw [show (4 : Int32) = nI 4 from rfl, pk_mul, nI_add]
    rw [e]
    exact vp_in_nI (by omega) (by decide)
theorem z_ws1 {x : Int32} (h : vp_in x 17) (h1 : x < 16) : vp_in x 16 := by
  rw [vp_in_iff] at h ⊢
  have h2 : x.toInt < (16 : Int32).toInt := Int32.lt_iff_toInt_lt.mp h1
  have h3 : (16 : Int32).toInt = 16 := by decide
  omega
theorem z_ws2 {x : Int32} (h : vp_in x 17) (h1 : x < 16) : vp_in (x + 1) 17 := by
  obtain ⟨j, hj, rfl⟩ := vp_in_of (z_ws1 h h1) (by decide)
  rw [nI_1]
  exact vp_in_nI (by omega) (by decide)
theorem z_nb {x : Int32} (h : x = 0 ∨ x = 1) : narrow .boolean (.int x) = .int x := by rcases h with rfl | rfl <;> rfl
theorem z_fb {x : Int32} (h : x = 0 ∨ x = 1) : fits .boolean (.int x) = true := by rcases h with rfl | rfl <;> rfl
theorem z_ti {x k : Int32} (h : ¬ x = k) : ¬ x.toInt = k.toInt := fun e => h (Int32.toInt_inj.mp e)
theorem z_tout3 {x : Int32} (h0 : ¬ x = 0) (h1 : ¬ x = 1) (h2 : ¬ x = 2) : x.toInt < 0 ∨ 2 < x.toInt := by
  have a0 := z_ti h0; have a1 := z_ti h1; have a2 := z_ti h2
  rw [show (0 : Int32).toInt = 0 by decide] at a0
  rw [show (1 : Int32).toInt = 1 by decide] at a1
  rw [show (2 : Int32).toInt = 2 by decide] at a2
  omega
theorem z_tout6 {x : Int32} (h0 : ¬ x = 0) (h1 : ¬ x = 1) (h2 : ¬ x = 2) (h3 : ¬ x = 3) (h4 : ¬ x = 4) (h5 : ¬ x = 5) : x.toInt < 0 ∨ 5 < x.toInt := by
  have a := z_tout3 h0 h1 h2; have a3 := z_ti h3; have a4 := z_ti h4; have a5 := z_ti h5
  rw [show (3 : Int32).toInt = 3 by decide] at a3
  rw [show (4 : Int32).toInt = 4 by decide] at a4
  rw [show (5 : Int32).toInt = 5 by decide] at a5
  omega
theorem z_tout11 {x : Int32} (h0 : ¬ x = 0) (h1 : ¬ x = 1) (h2 : ¬ x = 2) (h3 : ¬ x = 3) (h4 : ¬ x = 4) (h5 : ¬ x = 5) (h6 : ¬ x = 6) (h7 : ¬ x = 7) (h8 : ¬ x = 8) (h9 : ¬ x = 9) (h10 : ¬ x = 10) : x.toInt < 0 ∨ 10 < x.toInt := by
  have a := z_tout6 h0 h1 h2 h3 h4 h5; have a6 := z_ti h6; have a7 := z_ti h7; have a8 := z_ti h8; have a9 := z_ti h9; have a10 := z_ti h10
  rw [show (6 : Int32).toInt = 6 by decide] at a6
  rw [show (7 : Int32).toInt = 7 by decide] at a7
  rw [show (8 : Int32).toInt = 8 by decide] at a8
  rw [show (9 : Int32).toInt = 9 by decide] at a9
  rw [show (10 : Int32).toInt = 10 by decide] at a10
  omega
theorem z_fresh (L : List Nat) : ∃ q, q ∉ L := by
  refine ⟨L.foldr (fun a b => a + b) 0 + 1, fun h => ?_⟩
  have : ∀ (M : List Nat) (x : Nat), x ∈ M → x ≤ M.foldr (fun a b => a + b) 0 := by
    intro M
    induction M with
    | nil => intro x h; cases h
    | cons y M ih =>
      intro x h
      show x ≤ y + M.foldr (fun a b => a + b) 0
      rcases List.mem_cons.mp h with rfl | h
      · omega
      · have := ih x h; omega
  have := this L _ h
  omega
end STATE
