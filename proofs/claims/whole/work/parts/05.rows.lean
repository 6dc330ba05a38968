section ROWS2
variable {p : Program} {l : Launch} {e : Env} {R : Room} {s : State} {m : MethodId} {args : Array Value} {below : List Frame} {meth : Method} {c : Code} {H : Heap} {locs : List Loc} {cells slots : Nat} {Q : State → Prop}
variable {cc bytes : ByteArray} {pc : Nat} {ls : Array Slot} {rest st0 : List Value} {G : gG} {ws0 ws ws1 : va_W} {mc ms nL maxL n index : Nat} {own C : String} {y : MethodName} {ret : Option FieldType} {wsy Ts : List Cond} {rm : Room} {b : Nat} {As : List Value}
abbrev z_Qi0 (G : gG) (ws0 : va_W) (sz : Nat) (ws1 : va_W) (v : Int32) : Array Value → State → Outcome → State → Prop := z_Qi G ws0 sz (fun _ : Unit => ws1) (fun r _ => r = v)
abbrev z_Qq0 (G : gG) (ws0 : va_W) (sz : Nat) (ws1 : va_W) (v : Option Nat) : Array Value → State → Outcome → State → Prop := z_Qq G ws0 sz (fun _ : Unit => ws1) (fun r _ => r = v)
abbrev z_Qv0 (G : gG) (ws0 : va_W) (sz : Nat) (ws1 : va_W) : Array Value → State → Outcome → State → Prop := z_Qv G ws0 sz (fun _ : Unit => ws1) (fun _ => True)
theorem z_Vi0 {v : Int32} (F : CallFix p m c cc nL s args Ts own) (hM : Met l y wsy rm (va_Pc (.ref b :: As) (z_pre G ws H.size)) (z_Qi0 G ws H.size ws1 v) mc ms (va_A ws H.size)) (cw : CallW R s args own C index y bytes maxL ret wsy rm mc ms n)
    (h0 : z_st G ws0 s) (hw : z_wl G ws0 s ws H locs) (q0 : Nat) {ci : Nat} {fs : List Value} (he : ws[q0]? = some (b, .inr (ci, fs))) {q : vw_C} (hc : kCl[ci]? = some q) (hq : q.1 = C) (hn : As.length = n) (hl : ls.size = nL) (hst : st0 = As.reverse ++ .ref b :: rest) (h8 : (rest.map fun v => v.category).sum ≤ 8) (hdg : decode cc pc = .ok (.invokevirtual index, 3)) (hf : cells + mc ≤ R.cells ∧ slots + ms ≤ R.slots)
    (kk : ∀ (H1 : Heap) (locs1 : List Loc), z_wl G ws0 s ws1 H1 locs1 → W p l e R s m args below meth c H1 locs1 (cells + mc) (slots + ms) Q (F0 m (pc + 3) ls (.int v :: rest))) : W p l e R s m args below meth c H locs cells slots Q (F0 m pc ls st0) :=
  z_Vi F hM cw h0 hw q0 he hc hq hn hl hst h8 hdg hf (fun r _ H1 locs1 hp hw1 => by subst hp; exact kk H1 locs1 hw1)
theorem z_Vq0 {v : Option Nat} (F : CallFix p m c cc nL s args Ts own) (hM : Met l y wsy rm (va_Pc (.ref b :: As) (z_pre G ws H.size)) (z_Qq0 G ws H.size ws1 v) mc ms (va_A ws H.size)) (cw : CallW R s args own C index y bytes maxL ret wsy rm mc ms n)
    (h0 : z_st G ws0 s) (hw : z_wl G ws0 s ws H locs) (q0 : Nat) {ci : Nat} {fs : List Value} (he : ws[q0]? = some (b, .inr (ci, fs))) {q : vw_C} (hc : kCl[ci]? = some q) (hq : q.1 = C) (hn : As.length = n) (hl : ls.size = nL) (hst : st0 = As.reverse ++ .ref b :: rest) (h8 : (rest.map fun v => v.category).sum ≤ 8) (hdg : decode cc pc = .ok (.invokevirtual index, 3)) (hf : cells + mc ≤ R.cells ∧ slots + ms ≤ R.slots)
    (kk : ∀ (H1 : Heap) (locs1 : List Loc), z_wl G ws0 s ws1 H1 locs1 → W p l e R s m args below meth c H1 locs1 (cells + mc) (slots + ms) Q (F0 m (pc + 3) ls (va_rf v :: rest))) : W p l e R s m args below meth c H locs cells slots Q (F0 m pc ls st0) :=
  z_Vq F hM cw h0 hw q0 he hc hq hn hl hst h8 hdg hf (fun r _ H1 locs1 hp hw1 => by subst hp; exact kk H1 locs1 hw1)
theorem z_Vv0 (F : CallFix p m c cc nL s args Ts own) (hM : Met l y wsy rm (va_Pc (.ref b :: As) (z_pre G ws H.size)) (z_Qv0 G ws H.size ws1) mc ms (va_A ws H.size)) (cw : CallW R s args own C index y bytes maxL ret wsy rm mc ms n)
    (h0 : z_st G ws0 s) (hw : z_wl G ws0 s ws H locs) (q0 : Nat) {ci : Nat} {fs : List Value} (he : ws[q0]? = some (b, .inr (ci, fs))) {q : vw_C} (hc : kCl[ci]? = some q) (hq : q.1 = C) (hn : As.length = n) (hl : ls.size = nL) (hst : st0 = As.reverse ++ .ref b :: rest) (h8 : (rest.map fun v => v.category).sum ≤ 8) (hdg : decode cc pc = .ok (.invokevirtual index, 3)) (hf : cells + mc ≤ R.cells ∧ slots + ms ≤ R.slots)
    (kk : ∀ (H1 : Heap) (locs1 : List Loc), z_wl G ws0 s ws1 H1 locs1 → W p l e R s m args below meth c H1 locs1 (cells + mc) (slots + ms) Q (F0 m (pc + 3) ls rest)) : W p l e R s m args below meth c H locs cells slots Q (F0 m pc ls st0) :=
  z_Vv F hM cw h0 hw q0 he hc hq hn hl hst h8 hdg hf (fun _ H1 locs1 _ hw1 => kk H1 locs1 hw1)
theorem z_Si0 {v : Int32} (F : CallFix p m c cc nL s args Ts own) (hM : Met l y wsy rm (va_Pc As (z_pre G ws H.size)) (z_Qi0 G ws H.size ws1 v) mc ms (va_A ws H.size)) (cw : CallB R s args own index y bytes maxL ret wsy rm mc ms n ∧ (Cond.static y).before args s = true)
    (h0 : z_st G ws0 s) (hw : z_wl G ws0 s ws H locs) (hn : As.length = n) (hl : ls.size = nL) (hst : st0 = As.reverse ++ rest) (h8 : (rest.map fun v => v.category).sum ≤ 8) (hdg : decode cc pc = .ok (.invokestatic index, 3)) (hf : cells + mc ≤ R.cells ∧ slots + ms ≤ R.slots)
    (kk : ∀ (H1 : Heap) (locs1 : List Loc), z_wl G ws0 s ws1 H1 locs1 → W p l e R s m args below meth c H1 locs1 (cells + mc) (slots + ms) Q (F0 m (pc + 3) ls (.int v :: rest))) : W p l e R s m args below meth c H locs cells slots Q (F0 m pc ls st0) :=
  z_Si F hM cw h0 hw hn hl hst h8 hdg hf (fun r _ H1 locs1 hp hw1 => by subst hp; exact kk H1 locs1 hw1)
theorem z_Iv0 (F : CallFix p m c cc nL s args Ts own) (hM : Met l y wsy rm (va_Pc (.ref b :: As) (z_pre G ws H.size)) (z_Qv0 G ws H.size ws1) mc ms (va_A ws H.size)) (cw : CallB R s args own index y bytes maxL none wsy rm mc ms n ∧ y.name = "<init>" ∧ (Cond.instanceMethod y).before args s = true)
    (h0 : z_st G ws0 s) (hw : z_wl G ws0 s ws H locs) (hn : As.length = n) (hl : ls.size = nL) (hst : st0 = As.reverse ++ .ref b :: rest) (h8 : (rest.map fun v => v.category).sum ≤ 8) (hdg : decode cc pc = .ok (.invokespecial index, 3)) (hf : cells + mc ≤ R.cells ∧ slots + ms ≤ R.slots)
    (kk : ∀ (H1 : Heap) (locs1 : List Loc), z_wl G ws0 s ws1 H1 locs1 → W p l e R s m args below meth c H1 locs1 (cells + mc) (slots + ms) Q (F0 m (pc + 3) ls rest)) : W p l e R s m args below meth c H locs cells slots Q (F0 m pc ls st0) :=
  z_Iv F hM cw h0 hw hn hl hst h8 hdg hf (fun _ H1 locs1 _ hw1 => kk H1 locs1 hw1)
/-- a test that throws or lets pass: P says what it throws, N that it doesn't -/
abbrev z_Qn (G : gG) (ws0 : va_W) (sz : Nat) (N : Prop) : Array Value → State → Outcome → State → Prop := z_Qv G ws0 sz (fun _ : Unit => ws0) (fun _ => N)
theorem z_VXn {P : String → Prop} {N : Prop} (F : CallFix p m c cc nL s args Ts own) (hM : vx_Met l y wsy rm (va_Pc (.ref b :: As) (z_pre G ws H.size)) (z_Qn G ws H.size N) (z_X G ws H.size P) mc ms (va_A ws H.size)) (cw : CallW R s args own C index y bytes maxL ret wsy rm mc ms n)
    (h0 : z_st G ws0 s) (hw : z_wl G ws0 s ws H locs) (q0 : Nat) {ci : Nat} {fs : List Value} (he : ws[q0]? = some (b, .inr (ci, fs))) {q : vw_C} (hc : kCl[ci]? = some q) (hq : q.1 = C) (hn : As.length = n) (hl : ls.size = nL) (hst : st0 = As.reverse ++ .ref b :: rest) (h8 : (rest.map fun v => v.category).sum ≤ 8) (hdg : decode cc pc = .ok (.invokevirtual index, 3)) (hf : cells + mc ≤ R.cells ∧ slots + ms ≤ R.slots)
    (kx : ∀ (E : String) (ce : Cell) (q9 : Addr) (H1 : Heap) (locs1 : List Loc), P E → z_wl G ws0 s ws H1 locs1 → H1[q9]? = some ce → ce.vm = .none → s.vm.findClass E = some ce.cls → vx_W p l e R s m args below meth c H1 locs1 (cells + mc) (slots + ms) Q (F0 m pc ls rest) q9)
    (kk : ∀ (H1 : Heap) (locs1 : List Loc), N → z_wl G ws0 s ws H1 locs1 → W p l e R s m args below meth c H1 locs1 (cells + mc) (slots + ms) Q (F0 m (pc + 3) ls rest)) : W p l e R s m args below meth c H locs cells slots Q (F0 m pc ls st0) :=
  z_VXv F hM cw h0 hw q0 he hc hq hn hl hst h8 hdg hf kx (fun _ H1 locs1 hp hw1 => kk H1 locs1 hp hw1)
theorem z_SXn {P : String → Prop} {N : Prop} (F : CallFix p m c cc nL s args Ts own) (hM : vx_Met l y wsy rm (va_Pc As (z_pre G ws H.size)) (z_Qn G ws H.size N) (z_X G ws H.size P) mc ms (va_A ws H.size)) (cw : CallB R s args own index y bytes maxL ret wsy rm mc ms n ∧ (Cond.static y).before args s = true)
    (h0 : z_st G ws0 s) (hw : z_wl G ws0 s ws H locs) (hn : As.length = n) (hl : ls.size = nL) (hst : st0 = As.reverse ++ rest) (h8 : (rest.map fun v => v.category).sum ≤ 8) (hdg : decode cc pc = .ok (.invokestatic index, 3)) (hf : cells + mc ≤ R.cells ∧ slots + ms ≤ R.slots)
    (kx : ∀ (E : String) (ce : Cell) (q9 : Addr) (H1 : Heap) (locs1 : List Loc), P E → z_wl G ws0 s ws H1 locs1 → H1[q9]? = some ce → ce.vm = .none → s.vm.findClass E = some ce.cls → vx_W p l e R s m args below meth c H1 locs1 (cells + mc) (slots + ms) Q (F0 m pc ls rest) q9)
    (kk : ∀ (H1 : Heap) (locs1 : List Loc), N → z_wl G ws0 s ws H1 locs1 → W p l e R s m args below meth c H1 locs1 (cells + mc) (slots + ms) Q (F0 m (pc + 3) ls rest)) : W p l e R s m args below meth c H locs cells slots Q (F0 m pc ls st0) :=
  z_SXv F hM cw h0 hw hn hl hst h8 hdg hf kx (fun _ H1 locs1 hp hw1 => kk H1 locs1 hp hw1)
/-- throw new E() -/
theorem z_throw0 {Qc : Array Value → State → Outcome → State → Prop} {P : String → Prop} {cls : String} {ik ic : Nat} (hx : p.tables.exec = Jvm.exec) (hb : c.code = cc) (hl9 : l.stackTraces = false) (hown : s.vm.findClass own = some m.cls) (hk : (Cond.classLink own ik cls).before args s = true) (hini : (Cond.initialized cls).before args s = true)
    (hat : ∀ w ∈ vx_at0 own ic cls ["java/lang/RuntimeException", "java/lang/Exception"], w.before args s = true) (hgood : (Bundle.fit cls = true ∧ ∀ n ∈ (["java/lang/RuntimeException", "java/lang/Exception"] : List String), Bundle.fit n = true) ∧ ∀ w ∈ Cond.classLink own ik cls :: Cond.initialized cls :: vx_at0 own ic cls ["java/lang/RuntimeException", "java/lang/Exception"], vx_ot w = true)
    (h0 : z_st G ws0 s) (hw : z_wl G ws0 s ws0 H locs) (hsize : ls.size = c.maxLocals)
    (d0 : decode cc pc = .ok (.new ik, 3)) (d3 : decode cc (pc + 3) = .ok (.dup, 1)) (d4 : decode cc (pc + 4) = .ok (.invokespecial ic, 3)) (d7 : decode cc (pc + 7) = .ok (.athrow, 1)) (hout : ∀ x ∈ c.exceptionTable.toList, False)
    (hRf : 5 < R.frames) (hRl : (rest.map fun v => v.category).sum + 81 ≤ R.locals) (hRc : cells + 1 ≤ R.cells) (hRs : slots + 6 ≤ R.slots) (hlocks : meth.locks = false) (hp : P cls) (hc : cells + 1 ≤ mc) (hs : slots + 6 ≤ ms) :
    W p l e R s m args below meth c H locs cells slots (vx_MQ below Qc (z_X G ws0 s.heap.size P) args s mc ms (va_A ws0 s.heap.size)) (F0 m pc ls rest) :=
  vx_throw0 (names := ["java/lang/RuntimeException", "java/lang/Exception"]) (A := va_A ws0 s.heap.size) hx hb hl9 hown hgood.1.1 hgood.1.2 hk hini hat hgood.2 h0.2.2.1 h0.2.2.2.1 hw.2.2 hsize d0 d3 d4 d7 (fun x h => (hout x h).elim) hRf hRl hRc hRs hlocks
    (fun t ha h1 h2 => ⟨(), trivial, ⟨hp, hw.1.kept (fun k q hk => h2 q.1 ((hw.1 k q hk).lt)), va_K.moved ha h0.1, hw.2.1⟩, Nat.le_trans hw.2.2.1 h1, fun q g1 g2 => by rw [h2 q (Nat.lt_of_lt_of_le g1 hw.2.2.1)]; exact hw.2.2.2.1 q g1 g2⟩) hw.2.2.2.2 hc hs
/-- references that may be null -/
theorem z_cat (r : Option Nat) : (va_rf r).category = 1 := by cases r <;> rfl
theorem z_aload_n {r : Option Nat} (hx : p.tables.exec = Jvm.exec) (hb : c.code = cc) {k : Fin 4} {i : Nat} (hdg : decode cc pc = .ok (.aload_n k, 1)) (hi : (k : Nat) = i) (hl : ls[i]? = some (.val (va_rf r)))
    (kk : W p l e R s m args below meth c H locs cells slots Q (F0 m (pc + 1) ls (va_rf r :: rest))) : W p l e R s m args below meth c H locs cells slots Q (F0 m pc ls rest) := by
  cases r with
  | none => exact lv_aload_nN hx hb hdg hi hl kk
  | some a => exact lv_aload_n hx hb hdg hi hl kk
theorem z_aload {r : Option Nat} (hx : p.tables.exec = Jvm.exec) (hb : c.code = cc) {i : Nat} (hdg : decode cc pc = .ok (.aload i, 2)) (hl : ls[i]? = some (.val (va_rf r)))
    (kk : W p l e R s m args below meth c H locs cells slots Q (F0 m (pc + 2) ls (va_rf r :: rest))) : W p l e R s m args below meth c H locs cells slots Q (F0 m pc ls rest) := by
  cases r with
  | none => exact lv_aloadN hx hb hdg hl kk
  | some a => exact lv_aload hx hb hdg hl kk
theorem z_astore_n {r : Option Nat} (hx : p.tables.exec = Jvm.exec) (hb : c.code = cc) {k : Fin 4} {i nL : Nat} {lv lv' : List (Nat × Value)} (hdg : decode cc pc = .ok (.astore_n k, 1)) (hi : (k : Nat) = i) (h : lv_has ls nL lv) (hn : i < nL) (hl : (i, va_rf r) :: lv.filter (fun q => !(q.1 == i) && !(q.1 + 1 == i && q.2.category == 2)) = lv')
    (kk : ∀ ls' : Array Slot, lv_has ls' nL lv' → W p l e R s m args below meth c H locs cells slots Q (F0 m (pc + 1) ls' rest)) : W p l e R s m args below meth c H locs cells slots Q (F0 m pc ls (va_rf r :: rest)) := by
  cases r with
  | none => exact lv_astore_nN hx hb hdg hi h hn hl kk
  | some a => exact lv_astore_n hx hb hdg hi h hn hl kk
theorem z_astore {r : Option Nat} (hx : p.tables.exec = Jvm.exec) (hb : c.code = cc) {i nL : Nat} {lv lv' : List (Nat × Value)} (hdg : decode cc pc = .ok (.astore i, 2)) (h : lv_has ls nL lv) (hn : i < nL) (hl : (i, va_rf r) :: lv.filter (fun q => !(q.1 == i) && !(q.1 + 1 == i && q.2.category == 2)) = lv')
    (kk : ∀ ls' : Array Slot, lv_has ls' nL lv' → W p l e R s m args below meth c H locs cells slots Q (F0 m (pc + 2) ls' rest)) : W p l e R s m args below meth c H locs cells slots Q (F0 m pc ls (va_rf r :: rest)) := by
  cases r with
  | none => exact lv_astoreN hx hb hdg h hn hl kk
  | some a => exact lv_astore hx hb hdg h hn hl kk
theorem z_ifnull {r : Option Nat} (hx : p.tables.exec = Jvm.exec) (hb : c.code = cc) {off : Int} {tgt : Nat} (hdg : decode cc pc = .ok (.ifnull off, 3)) (ht : (pc : Int) + off = (tgt : Int)) (kn : r = none → W p l e R s m args below meth c H locs cells slots Q (F0 m tgt ls rest)) (ks : ∀ a, r = some a → W p l e R s m args below meth c H locs cells slots Q (F0 m (pc + 3) ls rest)) :
    W p l e R s m args below meth c H locs cells slots Q (F0 m pc ls (va_rf r :: rest)) := by
  cases r with
  | none => exact lv_ifnullN hx hb hdg ht (kn rfl)
  | some a => exact lv_ifnull hx hb hdg (ks a rfl)
theorem z_ifnonnull {r : Option Nat} (hx : p.tables.exec = Jvm.exec) (hb : c.code = cc) {off : Int} {tgt : Nat} (hdg : decode cc pc = .ok (.ifnonnull off, 3)) (ht : (pc : Int) + off = (tgt : Int)) (kn : r = none → W p l e R s m args below meth c H locs cells slots Q (F0 m (pc + 3) ls rest)) (ks : ∀ a, r = some a → W p l e R s m args below meth c H locs cells slots Q (F0 m tgt ls rest)) :
    W p l e R s m args below meth c H locs cells slots Q (F0 m pc ls (va_rf r :: rest)) := by
  cases r with
  | none => exact lv_ifnonnullN hx hb hdg (kn rfl)
  | some a => exact lv_ifnonnull hx hb hdg ht (ks a rfl)
end ROWS2
section PURE0
def oel {α : Type} (x : Option Nat) (n : α) (f : Nat → α) : α := match x with | none => n | some a => f a
theorem oel_none {α : Type} {n : α} {f : Nat → α} : oel none n f = n := rfl
theorem oel_some {α : Type} {n : α} {f : Nat → α} {a : Nat} : oel (some a) n f = f a := rfl
/-- what a test throws goes out, else what follows -/
def exo {α : Type} (x : Option String) (k : String ⊕ α) : String ⊕ α := match x with | none => k | some E => .inl E
theorem exo_none {α : Type} {k : String ⊕ α} : exo none k = k := rfl
theorem exo_some {α : Type} {k : String ⊕ α} {E : String} : exo (some E) k = .inl E := rfl
end PURE0
