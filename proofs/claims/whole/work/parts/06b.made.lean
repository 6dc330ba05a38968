section MADE
def w7 (a b c d e f g : Int32) : Nat → Int32 := fun k => match k with
  | 0 => a
  | 1 => b
  | 2 => c
  | 3 => d
  | 4 => e
  | 5 => f
  | _ => g
theorem z_inN {st : CS} {q : Nat} {w : Nat → Int32} : q ∈ (sN st q w).2.2.2.1 := List.mem_append_right _ (List.mem_singleton.mpr rfl)
theorem z_lY {X Y : va_W} {k : Nat} {y : Nat × va_E} (h : Y[k]? = some y) : (X ++ Y)[X.length + k]? = some y := by
  rw [List.getElem?_append_right (by omega), show X.length + k - X.length = k by omega]
  exact h
theorem z_sY {X Y : va_W} {k : Nat} {y : Nat × va_E} : (X ++ Y).set (X.length + k) y = X ++ Y.set k y := by
  rw [List.set_append_right _ _ (by omega), show X.length + k - X.length = k by omega]
theorem z_Dl {A : Nat → Prop} {a b : va_W} (h : va_D A (a ++ b)) : va_D A a :=
  h.by (fun k => k) (fun k q hk => by
    have hl := (List.getElem?_eq_some_iff.mp hk).1
    rw [List.getElem?_append_left hl]; exact hk) (fun _ _ _ _ e => e)
theorem z_asc {G : gG} {ws0 a b c : va_W} {s : State} {H : Heap} {locs : List Loc} (hP : va_P G.1 kCl ((a ++ b) ++ c) H) (hD : va_D (va_A ws0 s.heap.size) ((a ++ b) ++ c)) (hS : va_S (va_A ws0 s.heap.size) s.heap H locs) : z_wl G ws0 s (a ++ (b ++ c)) H locs := by
  rw [List.append_assoc] at hP hD
  exact ⟨hP, hD, hS⟩
theorem z_csa {G : gG} {ws0 a b c : va_W} {s : State} {H : Heap} {locs : List Loc} (h : z_wl G ws0 s (a ++ (b ++ c)) H locs) : z_wl G ws0 s ((a ++ b) ++ c) H locs := by
  rw [List.append_assoc]
  exact h
theorem z_into {G : gG} {ws0 wr : va_W} {s : State} {ad : Nat → Nat} {st : CS} {q : Nat} {w : Nat → Int32} {H : Heap} {locs : List Loc} (hw : z_wl G ws0 s ((wC ad G st ++ wr) ++ [(q, .inr (0, [.int (w 0), .int (w 1), .int (w 2), .int (w 3), .int (w 4), .int (w 5), .int (w 6)]))]) H locs) :
    q ∉ st.2.2.2.1 ∧ z_wl G ws0 s (wC ad G (sN st q w) ++ wr) H locs := by
  have hP := hw.1.swap
  have hD := hw.2.1.swap
  have hq : q ∉ st.2.2.2.1 := va_pl_fresh2 (z_Dl hD)
  have e : wC ad G st ++ [(q, .inr (0, [.int (w 0), .int (w 1), .int (w 2), .int (w 3), .int (w 4), .int (w 5), .int (w 6)]))] = wC ad G (sN st q w) := by
    unfold wC
    rw [List.append_assoc, va_pl_push hq]
    refine congrArg (fun l => _ ++ l) (va_pl_congr (fun a => ?_))
    show va_up (ceE st.2.2.2.2) q _ a = ceE (va_up st.2.2.2.2 q w) a
    by_cases h : a = q
    · subst h; simp [va_up, ceE]
    · simp [va_up, ceE, h]
  rw [e] at hP hD
  exact ⟨hq, hP, hD, hw.2.2⟩
theorem z_nm1 {p : Int32} (h : vp_in p 6) : ¬ p = -1 := by
  intro e
  rw [e] at h
  exact absurd h (by unfold vp_in; decide)
theorem z_gI {y : MethodName} {b : ByteArray} {n : Nat} {r : Option FieldType} (h : goB (.code y b n r) = true) : GoodIn goT (.code y b n r :: goT) := by
  have hm : ∀ w ∈ (Cond.code y b n r :: goT), w ∈ goT := by
    intro w hw
    rcases List.mem_cons.mp hw with rfl | hw
    · exact goI h
    · exact hw
  exact goodIn_sub hm (List.all_eq_true.mpr (fun w hw => goG (hm w hw)))
theorem gI_C_init : GoodIn goT w_C_init := z_gI (by decide +kernel)
end MADE
