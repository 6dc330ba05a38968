/-! what stands outside the worlds and stays: words that are not kept by themselves, two statics of Throwable, the table of the highest numbers -/
section AMB
abbrev gG : Type := va_G × (Nat → ClassId) × (Nat → Nat)
def tyL (G : gG) : List (ClassId × FieldType) := [(G.2.1 0, .int), (G.2.1 1, .object "SecureEntry$Certificate"), (G.2.1 2, .long), (G.2.1 3, .boolean)]
def hiC (k : Nat) : Int32 := match k with
  | 4 => 16
  | 5 => 3
  | _ => 1000
def nwL : List Cond := [.castable "java/lang/IllegalArgumentException" "java/lang/IllegalArgumentException", .castable "java/lang/IllegalStateException" "java/lang/IllegalStateException", .castable "java/util/NoSuchElementException" "java/util/NoSuchElementException", .castable "java/lang/UnsupportedOperationException" "java/lang/UnsupportedOperationException", .declares ⟨"java/lang/RuntimeException", "<init>", "()V"⟩, .declares ⟨"java/lang/Exception", "<init>", "()V"⟩, .declares ⟨"java/lang/Throwable", "<init>", "()V"⟩]
def amb (G : gG) (A : Nat → Prop) (U : State) (H : Heap) : Prop := (∀ w ∈ nwL, va_Nw w U) ∧ vx_Zq Bundle.tN "UNASSIGNED_STACK" Bundle.steD A U H ∧ vx_Zq Bundle.tN "SUPPRESSED_SENTINEL" Bundle.listD A U H ∧ va_Z R_S "HIGHEST_CONFIGURATION" "[I" (.ref (G.2.2 0)) A U H ∧ va_T .int (G.2.2 0) 6 (fun j => .int (hiC j)) A U H
theorem nw_warm {s U : State} (hW : s.WarmedH U.vm) (h : ∀ w ∈ nwL, va_Nw w s) : ∀ w ∈ nwL, va_Nw w U := by
  intro w hw
  have h1 := h w hw
  simp only [nwL, List.mem_cons, List.not_mem_nil, or_false] at hw
  rcases hw with rfl | rfl | rfl | rfl | rfl | rfl | rfl
  · exact va_Nw.warmC hW h1
  · exact va_Nw.warmC hW h1
  · exact va_Nw.warmC hW h1
  · exact va_Nw.warmC hW h1
  · exact va_Nw.warmD hW h1
  · exact va_Nw.warmD hW h1
  · exact va_Nw.warmD hW h1
theorem nw_same {s U : State} (hW : s.vm = U.vm) (h : ∀ w ∈ nwL, va_Nw w s) : ∀ w ∈ nwL, va_Nw w U := by
  intro w hw
  have h1 := h w hw
  simp only [nwL, List.mem_cons, List.not_mem_nil, or_false] at hw
  rcases hw with rfl | rfl | rfl | rfl | rfl | rfl | rfl <;> exact va_Nw.same rfl hW h1
theorem amb.go {G : gG} {A B : Nat → Prop} {s U : State} {H : Heap} {locs : List Loc} (h : amb G A s s.heap) (hS : va_S A s.heap H locs) (hW : s.WarmedH U.vm) (hU : U.heap = H) (hB : ∀ q, B q → A q) : amb G B U U.heap := by
  obtain ⟨h1, h2, h3, h4, h5⟩ := h
  rw [hU]
  exact ⟨nw_warm hW h1, ((h2.kept hS.2.1).narrow hB).moved hW.alike, ((h3.kept hS.2.1).narrow hB).moved hW.alike, ((h4.kept hS.2.1).narrow hB).moved hW.alike, ((h5.kept hS.2.1).narrow hB).moved hW.alike⟩
theorem amb.blind {G : gG} {B : Nat → Prop} {U : State} {g : JFrame} {mk : MethodId} {a : Array Value} (h : amb G B U U.heap) : amb G B (U.calling g mk a) (U.calling g mk a).heap := by
  obtain ⟨h1, h2, h3, h4, h5⟩ := h
  exact ⟨nw_same (s := U) (U := U.calling g mk a) rfl h1, h2.moved (Vm.Alike.refl U.vm), h3.moved (Vm.Alike.refl U.vm), h4.moved (Vm.Alike.refl U.vm), h5.moved (Vm.Alike.refl U.vm)⟩
end AMB
/-! the ground: one world for all; every contract speaks of the whole world that its caller holds, so no call cuts or joins anything -/
section GROUND
def z_pre (G : gG) (ws : va_W) (sz : Nat) (U : State) : Prop :=
  U.heap.size = sz ∧ va_P G.1 kCl ws U.heap ∧ va_K G.1 kCl (tyL G) U ∧ va_D (fun _ => True) ws ∧ amb G (va_A ws sz) U U.heap
def z_bk (G : gG) (ws0 : va_W) (sz : Nat) (ws1 : va_W) (t : State) : Prop := va_P G.1 kCl ws1 t.heap ∧ va_K G.1 kCl (tyL G) t ∧ va_D (va_A ws0 sz) ws1
def z_wl (G : gG) (ws0 : va_W) (s : State) (ws : va_W) (H : Heap) (locs : List Loc) : Prop :=
  va_P G.1 kCl ws H ∧ va_D (va_A ws0 s.heap.size) ws ∧ va_S (va_A ws0 s.heap.size) s.heap H locs
/-- what a walk knows of its start, all the way -/
def z_st (G : gG) (ws0 : va_W) (s : State) : Prop := va_K G.1 kCl (tyL G) s ∧ amb G (va_A ws0 s.heap.size) s s.heap
theorem z_blind {G : gG} {ws : va_W} {sz : Nat} {av : List Value} : FrameBlind (va_Pc av (z_pre G ws sz)) := by
  intro a U g mk q
  obtain ⟨q0, q1, q2, q3, q4, q5⟩ := q
  exact ⟨q0, q1, q2, va_K.moved (u := U) (U := U.calling g mk a) (Vm.Alike.refl U.vm) q3, q4, amb.blind q5⟩
theorem z_in {G : gG} {ws0 ws : va_W} {s : State} {H : Heap} {locs : List Loc} (hw : z_wl G ws0 s ws H locs) : ∀ q, va_A ws H.size q → va_A ws0 s.heap.size q := by
  intro q h
  rcases h with ⟨k, e, h⟩ | h
  · exact hw.2.1.2 k _ h
  · exact Or.inr (Nat.le_trans hw.2.2.1 h)
theorem z_go {G : gG} {ws0 ws : va_W} {s : State} {H : Heap} {locs : List Loc} {av : List Value} (h0 : z_st G ws0 s) (hw : z_wl G ws0 s ws H locs) : ∀ U : State, U.heap = H → s.WarmedH U.vm → va_Pc av (z_pre G ws H.size) av.toArray U := by
  intro U hU hW
  refine ⟨rfl, by rw [hU], by rw [hU]; exact hw.1, va_K.moved hW.alike h0.1, hw.2.1.weaken (fun _ _ _ _ => trivial), ?_⟩
  exact amb.go h0.2 hw.2.2 hW hU (z_in hw)
theorem z_back {G : gG} {ws0 ws ws1 : va_W} {s t : State} {H H1 : Heap} {locs locs1 : List Loc} (hw : z_wl G ws0 s ws H locs) (hB : z_bk G ws H.size ws1 t) (ht : t.heap = H1) (hS : va_S (va_A ws0 s.heap.size) s.heap H1 locs1) : z_wl G ws0 s ws1 H1 locs1 := by
  obtain ⟨h1, -, h3⟩ := hB
  rw [ht] at h1
  exact ⟨h1, h3.weaken (fun k q _ h => z_in hw q.1 h), hS⟩
theorem z_0 {G : gG} {ws0 : va_W} {s : State} (hP : va_P G.1 kCl ws0 s.heap) (hD : va_D (fun _ => True) ws0) : z_wl G ws0 s ws0 s.heap [] := ⟨hP, hD.self, va_S.rf⟩
/-- the ends -/
abbrev z_Qi {S : Type} (G : gG) (ws0 : va_W) (sz : Nat) (wf : S → va_W) (post : Int32 → S → Prop) : Array Value → State → Outcome → State → Prop := va_Qi post (fun u t => z_bk G ws0 sz (wf u) t) (va_A ws0 sz)
abbrev z_Qv {S : Type} (G : gG) (ws0 : va_W) (sz : Nat) (wf : S → va_W) (post : S → Prop) : Array Value → State → Outcome → State → Prop := va_Qv post (fun u t => z_bk G ws0 sz (wf u) t) (va_A ws0 sz)
abbrev z_Qq {S : Type} (G : gG) (ws0 : va_W) (sz : Nat) (wf : S → va_W) (post : Option Nat → S → Prop) : Array Value → State → Outcome → State → Prop := va_Qq post (fun u t => z_bk G ws0 sz (wf u) t) (va_A ws0 sz)
abbrev z_X (G : gG) (ws0 : va_W) (sz : Nat) (P : String → Prop) : String → State → State → Prop := vx_X (fun _ : Unit => True) (fun E _ t => P E ∧ z_bk G ws0 sz ws0 t) (va_A ws0 sz)
section ROWS
variable {p : Program} {l : Launch} {e : Env} {R : Room} {s : State} {m : MethodId} {args : Array Value} {below : List Frame} {meth : Method} {c : Code} {H : Heap} {locs : List Loc} {cells slots : Nat} {Q : State → Prop}
variable {cc bytes : ByteArray} {pc : Nat} {ls : Array Slot} {rest st0 : List Value} {G : gG} {ws0 ws : va_W} {mc ms nL maxL n index : Nat} {own C : String} {y : MethodName} {ret : Option FieldType} {wsy Ts : List Cond} {rm : Room} {b : Nat} {As : List Value}
theorem z_iret {S : Type} {wf : S → va_W} {post : Int32 → S → Prop} {v : Int32} {u : S} {ty : FieldType} (hx : p.tables.exec = Jvm.exec) (hb : c.code = cc) (hr : meth.sig.returnType = some ty) (hlocks : meth.locks = false) (h0 : z_st G ws0 s) (hw : z_wl G ws0 s (wf u) H locs) (hn : narrow ty (.int v) = .int v) (hp : post v u) (h1 : cells ≤ mc) (h2 : slots ≤ ms) (hdg : decode cc pc = .ok (.ireturn, 1)) :
    W p l e R s m args below meth c H locs cells slots (MQ below (z_Qi G ws0 s.heap.size wf post) args s mc ms (va_A ws0 s.heap.size)) (F0 m pc ls [.int v]) :=
  W.widen h1 h2 (W.zret hx hb hr hn (fun t ht hW => ⟨⟨v, u, rfl, hp, by rw [ht]; exact hw.1, va_K.moved hW.alike h0.1, hw.2.1⟩, hw.2.2.F ht⟩) hw.2.2.2.2 hdg hlocks)
theorem z_vret {S : Type} {wf : S → va_W} {post : S → Prop} {u : S} (hx : p.tables.exec = Jvm.exec) (hb : c.code = cc) (hr : meth.sig.returnType = none) (hlocks : meth.locks = false) (h0 : z_st G ws0 s) (hw : z_wl G ws0 s (wf u) H locs) (hp : post u) (h1 : cells ≤ mc) (h2 : slots ≤ ms) (hdg : decode cc pc = .ok (.return_, 1)) :
    W p l e R s m args below meth c H locs cells slots (MQ below (z_Qv G ws0 s.heap.size wf post) args s mc ms (va_A ws0 s.heap.size)) (F0 m pc ls []) :=
  W.widen h1 h2 (W.vret hx hb hr (fun t ht hW => ⟨⟨u, rfl, hp, by rw [ht]; exact hw.1, va_K.moved hW.alike h0.1, hw.2.1⟩, hw.2.2.F ht⟩) hw.2.2.2.2 hdg hlocks)
theorem z_qret {S : Type} {wf : S → va_W} {post : Option Nat → S → Prop} {r : Option Nat} {u : S} {rt : FieldType} (hx : p.tables.exec = Jvm.exec) (hb : c.code = cc) (hr : meth.sig.returnType = some rt) (hrt : (∃ n, rt = .object n) ∨ ∃ t, rt = .array t) (hlocks : meth.locks = false) (h0 : z_st G ws0 s) (hw : z_wl G ws0 s (wf u) H locs) (hp : post r u) (h1 : cells ≤ mc) (h2 : slots ≤ ms) (hdg : decode cc pc = .ok (.areturn, 1)) :
    W p l e R s m args below meth c H locs cells slots (MQ below (z_Qq G ws0 s.heap.size wf post) args s mc ms (va_A ws0 s.heap.size)) (F0 m pc ls [va_rf r]) :=
  W.widen h1 h2 (W.aret hx hb hr hrt (by cases r; exact Or.inl rfl; exact Or.inr ⟨_, rfl⟩) (fun t ht hW => ⟨⟨r, u, rfl, hp, by rw [ht]; exact hw.1, va_K.moved hW.alike h0.1, hw.2.1⟩, hw.2.2.F ht⟩) hw.2.2.2.2 hdg hlocks)
/-- calls that return -/
theorem z_Vi {S : Type} {wf : S → va_W} {post : Int32 → S → Prop} (F : CallFix p m c cc nL s args Ts own) (hM : Met l y wsy rm (va_Pc (.ref b :: As) (z_pre G ws H.size)) (z_Qi G ws H.size wf post) mc ms (va_A ws H.size)) (cw : CallW R s args own C index y bytes maxL ret wsy rm mc ms n)
    (h0 : z_st G ws0 s) (hw : z_wl G ws0 s ws H locs) (q0 : Nat) {ci : Nat} {fs : List Value} (he : ws[q0]? = some (b, .inr (ci, fs))) {q : vw_C} (hc : kCl[ci]? = some q) (hq : q.1 = C) (hn : As.length = n) (hl : ls.size = nL) (hst : st0 = As.reverse ++ .ref b :: rest) (h8 : (rest.map fun v => v.category).sum ≤ 8) (hdg : decode cc pc = .ok (.invokevirtual index, 3)) (hf : cells + mc ≤ R.cells ∧ slots + ms ≤ R.slots)
    (kk : ∀ (r : Int32) (u : S) (H1 : Heap) (locs1 : List Loc), post r u → z_wl G ws0 s (wf u) H1 locs1 → W p l e R s m args below meth c H1 locs1 (cells + mc) (slots + ms) Q (F0 m (pc + 3) ls (.int r :: rest))) : W p l e R s m args below meth c H locs cells slots Q (F0 m pc ls st0) :=
  va_calli (va_runV (g := F0 m pc ls st0) F hM cw ⟨z_blind, hq ▸ va_recv h0.1 hw.1 hc he, z_go h0 hw⟩ rfl hn hl hst (lv_room h8) hdg hf) hw.2.2 (fun q _ h => z_in hw q h) (z_in hw) (fun r u t H1 locs1 ht _ hp hB _ _ hS => kk r u H1 locs1 hp (z_back hw hB ht hS))
theorem z_Vv {S : Type} {wf : S → va_W} {post : S → Prop} (F : CallFix p m c cc nL s args Ts own) (hM : Met l y wsy rm (va_Pc (.ref b :: As) (z_pre G ws H.size)) (z_Qv G ws H.size wf post) mc ms (va_A ws H.size)) (cw : CallW R s args own C index y bytes maxL ret wsy rm mc ms n)
    (h0 : z_st G ws0 s) (hw : z_wl G ws0 s ws H locs) (q0 : Nat) {ci : Nat} {fs : List Value} (he : ws[q0]? = some (b, .inr (ci, fs))) {q : vw_C} (hc : kCl[ci]? = some q) (hq : q.1 = C) (hn : As.length = n) (hl : ls.size = nL) (hst : st0 = As.reverse ++ .ref b :: rest) (h8 : (rest.map fun v => v.category).sum ≤ 8) (hdg : decode cc pc = .ok (.invokevirtual index, 3)) (hf : cells + mc ≤ R.cells ∧ slots + ms ≤ R.slots)
    (kk : ∀ (u : S) (H1 : Heap) (locs1 : List Loc), post u → z_wl G ws0 s (wf u) H1 locs1 → W p l e R s m args below meth c H1 locs1 (cells + mc) (slots + ms) Q (F0 m (pc + 3) ls rest)) : W p l e R s m args below meth c H locs cells slots Q (F0 m pc ls st0) :=
  va_callv (va_runV (g := F0 m pc ls st0) F hM cw ⟨z_blind, hq ▸ va_recv h0.1 hw.1 hc he, z_go h0 hw⟩ rfl hn hl hst (lv_room h8) hdg hf) hw.2.2 (fun q _ h => z_in hw q h) (z_in hw) (fun u t H1 locs1 ht _ hp hB _ _ hS => kk u H1 locs1 hp (z_back hw hB ht hS))
theorem z_Vq {S : Type} {wf : S → va_W} {post : Option Nat → S → Prop} (F : CallFix p m c cc nL s args Ts own) (hM : Met l y wsy rm (va_Pc (.ref b :: As) (z_pre G ws H.size)) (z_Qq G ws H.size wf post) mc ms (va_A ws H.size)) (cw : CallW R s args own C index y bytes maxL ret wsy rm mc ms n)
    (h0 : z_st G ws0 s) (hw : z_wl G ws0 s ws H locs) (q0 : Nat) {ci : Nat} {fs : List Value} (he : ws[q0]? = some (b, .inr (ci, fs))) {q : vw_C} (hc : kCl[ci]? = some q) (hq : q.1 = C) (hn : As.length = n) (hl : ls.size = nL) (hst : st0 = As.reverse ++ .ref b :: rest) (h8 : (rest.map fun v => v.category).sum ≤ 8) (hdg : decode cc pc = .ok (.invokevirtual index, 3)) (hf : cells + mc ≤ R.cells ∧ slots + ms ≤ R.slots)
    (kk : ∀ (r : Option Nat) (u : S) (H1 : Heap) (locs1 : List Loc), post r u → z_wl G ws0 s (wf u) H1 locs1 → W p l e R s m args below meth c H1 locs1 (cells + mc) (slots + ms) Q (F0 m (pc + 3) ls (va_rf r :: rest))) : W p l e R s m args below meth c H locs cells slots Q (F0 m pc ls st0) :=
  va_callq (va_runV (g := F0 m pc ls st0) F hM cw ⟨z_blind, hq ▸ va_recv h0.1 hw.1 hc he, z_go h0 hw⟩ rfl hn hl hst (lv_room h8) hdg hf) hw.2.2 (fun q _ h => z_in hw q h) (z_in hw) (fun r u t H1 locs1 ht _ hp hB _ _ hS => kk r u H1 locs1 hp (z_back hw hB ht hS))
theorem z_Si {S : Type} {wf : S → va_W} {post : Int32 → S → Prop} (F : CallFix p m c cc nL s args Ts own) (hM : Met l y wsy rm (va_Pc As (z_pre G ws H.size)) (z_Qi G ws H.size wf post) mc ms (va_A ws H.size)) (cw : CallB R s args own index y bytes maxL ret wsy rm mc ms n ∧ (Cond.static y).before args s = true)
    (h0 : z_st G ws0 s) (hw : z_wl G ws0 s ws H locs) (hn : As.length = n) (hl : ls.size = nL) (hst : st0 = As.reverse ++ rest) (h8 : (rest.map fun v => v.category).sum ≤ 8) (hdg : decode cc pc = .ok (.invokestatic index, 3)) (hf : cells + mc ≤ R.cells ∧ slots + ms ≤ R.slots)
    (kk : ∀ (r : Int32) (u : S) (H1 : Heap) (locs1 : List Loc), post r u → z_wl G ws0 s (wf u) H1 locs1 → W p l e R s m args below meth c H1 locs1 (cells + mc) (slots + ms) Q (F0 m (pc + 3) ls (.int r :: rest))) : W p l e R s m args below meth c H locs cells slots Q (F0 m pc ls st0) :=
  va_calli (va_runS (g := F0 m pc ls st0) F hM cw ⟨z_blind, z_go h0 hw⟩ rfl hn hl hst (lv_room h8) hdg hf) hw.2.2 (fun q _ h => z_in hw q h) (z_in hw) (fun r u t H1 locs1 ht _ hp hB _ _ hS => kk r u H1 locs1 hp (z_back hw hB ht hS))
theorem z_Iv {S : Type} {wf : S → va_W} {post : S → Prop} (F : CallFix p m c cc nL s args Ts own) (hM : Met l y wsy rm (va_Pc (.ref b :: As) (z_pre G ws H.size)) (z_Qv G ws H.size wf post) mc ms (va_A ws H.size)) (cw : CallB R s args own index y bytes maxL none wsy rm mc ms n ∧ y.name = "<init>" ∧ (Cond.instanceMethod y).before args s = true)
    (h0 : z_st G ws0 s) (hw : z_wl G ws0 s ws H locs) (hn : As.length = n) (hl : ls.size = nL) (hst : st0 = As.reverse ++ .ref b :: rest) (h8 : (rest.map fun v => v.category).sum ≤ 8) (hdg : decode cc pc = .ok (.invokespecial index, 3)) (hf : cells + mc ≤ R.cells ∧ slots + ms ≤ R.slots)
    (kk : ∀ (u : S) (H1 : Heap) (locs1 : List Loc), post u → z_wl G ws0 s (wf u) H1 locs1 → W p l e R s m args below meth c H1 locs1 (cells + mc) (slots + ms) Q (F0 m (pc + 3) ls rest)) : W p l e R s m args below meth c H locs cells slots Q (F0 m pc ls st0) :=
  va_callv (va_runI (g := F0 m pc ls st0) F hM cw ⟨z_blind, z_go h0 hw⟩ rfl hn hl hst (lv_room h8) hdg hf) hw.2.2 (fun q _ h => z_in hw q h) (z_in hw) (fun u t H1 locs1 ht _ hp hB _ _ hS => kk u H1 locs1 hp (z_back hw hB ht hS))
/-- calls that return or throw; a call that throws changes nothing -/
theorem z_VXi {S : Type} {wf : S → va_W} {post : Int32 → S → Prop} {P : String → Prop} (F : CallFix p m c cc nL s args Ts own) (hM : vx_Met l y wsy rm (va_Pc (.ref b :: As) (z_pre G ws H.size)) (z_Qi G ws H.size wf post) (z_X G ws H.size P) mc ms (va_A ws H.size)) (cw : CallW R s args own C index y bytes maxL ret wsy rm mc ms n)
    (h0 : z_st G ws0 s) (hw : z_wl G ws0 s ws H locs) (q0 : Nat) {ci : Nat} {fs : List Value} (he : ws[q0]? = some (b, .inr (ci, fs))) {q : vw_C} (hc : kCl[ci]? = some q) (hq : q.1 = C) (hn : As.length = n) (hl : ls.size = nL) (hst : st0 = As.reverse ++ .ref b :: rest) (h8 : (rest.map fun v => v.category).sum ≤ 8) (hdg : decode cc pc = .ok (.invokevirtual index, 3)) (hf : cells + mc ≤ R.cells ∧ slots + ms ≤ R.slots)
    (kx : ∀ (E : String) (ce : Cell) (q9 : Addr) (H1 : Heap) (locs1 : List Loc), P E → z_wl G ws0 s ws H1 locs1 → H1[q9]? = some ce → ce.vm = .none → s.vm.findClass E = some ce.cls → vx_W p l e R s m args below meth c H1 locs1 (cells + mc) (slots + ms) Q (F0 m pc ls rest) q9)
    (kk : ∀ (r : Int32) (u : S) (H1 : Heap) (locs1 : List Loc), post r u → z_wl G ws0 s (wf u) H1 locs1 → W p l e R s m args below meth c H1 locs1 (cells + mc) (slots + ms) Q (F0 m (pc + 3) ls (.int r :: rest))) : W p l e R s m args below meth c H locs cells slots Q (F0 m pc ls st0) :=
  vx_calli (vx_runV (g := F0 m pc ls st0) F hM cw ⟨z_blind, hq ▸ va_recv h0.1 hw.1 hc he, z_go h0 hw⟩ rfl hn hl hst (lv_room h8) hdg hf) hw.2.2 (fun q _ h => z_in hw q h) (z_in hw) (fun q _ h => z_in hw q h) (fun E ce q9 _ t H1 locs1 ht _ _ hB _ _ hS hce hcv hcl => kx E ce q9 H1 locs1 hB.1 (z_back hw hB.2 ht hS) hce hcv hcl) (fun r u t H1 locs1 ht _ hp hB _ _ hS => kk r u H1 locs1 hp (z_back hw hB ht hS))
theorem z_VXv {S : Type} {wf : S → va_W} {post : S → Prop} {P : String → Prop} (F : CallFix p m c cc nL s args Ts own) (hM : vx_Met l y wsy rm (va_Pc (.ref b :: As) (z_pre G ws H.size)) (z_Qv G ws H.size wf post) (z_X G ws H.size P) mc ms (va_A ws H.size)) (cw : CallW R s args own C index y bytes maxL ret wsy rm mc ms n)
    (h0 : z_st G ws0 s) (hw : z_wl G ws0 s ws H locs) (q0 : Nat) {ci : Nat} {fs : List Value} (he : ws[q0]? = some (b, .inr (ci, fs))) {q : vw_C} (hc : kCl[ci]? = some q) (hq : q.1 = C) (hn : As.length = n) (hl : ls.size = nL) (hst : st0 = As.reverse ++ .ref b :: rest) (h8 : (rest.map fun v => v.category).sum ≤ 8) (hdg : decode cc pc = .ok (.invokevirtual index, 3)) (hf : cells + mc ≤ R.cells ∧ slots + ms ≤ R.slots)
    (kx : ∀ (E : String) (ce : Cell) (q9 : Addr) (H1 : Heap) (locs1 : List Loc), P E → z_wl G ws0 s ws H1 locs1 → H1[q9]? = some ce → ce.vm = .none → s.vm.findClass E = some ce.cls → vx_W p l e R s m args below meth c H1 locs1 (cells + mc) (slots + ms) Q (F0 m pc ls rest) q9)
    (kk : ∀ (u : S) (H1 : Heap) (locs1 : List Loc), post u → z_wl G ws0 s (wf u) H1 locs1 → W p l e R s m args below meth c H1 locs1 (cells + mc) (slots + ms) Q (F0 m (pc + 3) ls rest)) : W p l e R s m args below meth c H locs cells slots Q (F0 m pc ls st0) :=
  vx_callv (vx_runV (g := F0 m pc ls st0) F hM cw ⟨z_blind, hq ▸ va_recv h0.1 hw.1 hc he, z_go h0 hw⟩ rfl hn hl hst (lv_room h8) hdg hf) hw.2.2 (fun q _ h => z_in hw q h) (z_in hw) (fun q _ h => z_in hw q h) (fun E ce q9 _ t H1 locs1 ht _ _ hB _ _ hS hce hcv hcl => kx E ce q9 H1 locs1 hB.1 (z_back hw hB.2 ht hS) hce hcv hcl) (fun u t H1 locs1 ht _ hp hB _ _ hS => kk u H1 locs1 hp (z_back hw hB ht hS))
theorem z_SXv {S : Type} {wf : S → va_W} {post : S → Prop} {P : String → Prop} (F : CallFix p m c cc nL s args Ts own) (hM : vx_Met l y wsy rm (va_Pc As (z_pre G ws H.size)) (z_Qv G ws H.size wf post) (z_X G ws H.size P) mc ms (va_A ws H.size)) (cw : CallB R s args own index y bytes maxL ret wsy rm mc ms n ∧ (Cond.static y).before args s = true)
    (h0 : z_st G ws0 s) (hw : z_wl G ws0 s ws H locs) (hn : As.length = n) (hl : ls.size = nL) (hst : st0 = As.reverse ++ rest) (h8 : (rest.map fun v => v.category).sum ≤ 8) (hdg : decode cc pc = .ok (.invokestatic index, 3)) (hf : cells + mc ≤ R.cells ∧ slots + ms ≤ R.slots)
    (kx : ∀ (E : String) (ce : Cell) (q9 : Addr) (H1 : Heap) (locs1 : List Loc), P E → z_wl G ws0 s ws H1 locs1 → H1[q9]? = some ce → ce.vm = .none → s.vm.findClass E = some ce.cls → vx_W p l e R s m args below meth c H1 locs1 (cells + mc) (slots + ms) Q (F0 m pc ls rest) q9)
    (kk : ∀ (u : S) (H1 : Heap) (locs1 : List Loc), post u → z_wl G ws0 s (wf u) H1 locs1 → W p l e R s m args below meth c H1 locs1 (cells + mc) (slots + ms) Q (F0 m (pc + 3) ls rest)) : W p l e R s m args below meth c H locs cells slots Q (F0 m pc ls st0) :=
  vx_callv (vx_runS (g := F0 m pc ls st0) F hM cw ⟨z_blind, z_go h0 hw⟩ rfl hn hl hst (lv_room h8) hdg hf) hw.2.2 (fun q _ h => z_in hw q h) (z_in hw) (fun q _ h => z_in hw q h) (fun E ce q9 _ t H1 locs1 ht _ _ hB _ _ hS hce hcv hcl => kx E ce q9 H1 locs1 hB.1 (z_back hw hB.2 ht hS) hce hcv hcl) (fun u t H1 locs1 ht _ hp hB _ _ hS => kk u H1 locs1 hp (z_back hw hB ht hS))
/-- an exception that goes through -/
theorem z_out {Qc : Array Value → State → Outcome → State → Prop} {P : String → Prop} {E : String} {ce : Cell} {q : Addr} (hout : ∀ x ∈ c.exceptionTable.toList, False) (hlocks : meth.locks = false) (h0 : z_st G ws0 s) (hw : z_wl G ws0 s ws0 H locs) (hce : H[q]? = some ce) (hcv : ce.vm = .none) (hcl : s.vm.findClass E = some ce.cls) (hp : P E) (h1 : cells ≤ mc) (h2 : slots ≤ ms) :
    vx_W p l e R s m args below meth c H locs cells slots (vx_MQ below Qc (z_X G ws0 s.heap.size P) args s mc ms (va_A ws0 s.heap.size)) (F0 m pc ls rest) q :=
  vx_out (fun x hx => (hout x hx).elim) hlocks hce hcv hcl (fun t ht ha => ⟨(), trivial, ⟨hp, by rw [ht]; exact hw.1, va_K.moved ha h0.1, hw.2.1⟩, hw.2.2.F ht⟩) hw.2.2.2.2 h1 h2
end ROWS
end GROUND
