/-! the judgement GG: the machine's W with heap, locals' array and written places quantified inside; a rule an instruction -/
abbrev GX : Type := Program × Launch × Env × Room × State × MethodId × Array Value × List Frame × Method × Code × (Nat → Prop) × va_G × (State → Prop) × Prop
def gL (C : GX) : Launch := C.2.1
def gD (C : GX) : va_G := C.2.2.2.2.2.2.2.2.2.2.2.1
def gRo (C : GX) : Prop := C.2.2.2.2.2.2.2.2.2.2.2.2.2
abbrev gT (cI cO : ClassId) : List (ClassId × FieldType) := [(cI, .int), (cO, .array .int)]
def GG (C : GX) (nL : Nat) (ws : va_W) (k n pc : Nat) (lv : List (Nat × Value)) (st : List Value) : Prop := match C with
  | (p, l, e, R, s, m, args, below, meth, c, A, D, Q, ro) => ∀ (H : Heap) (locs : List Loc) (ls : Array Slot), va_P D vwCl ws H → va_D A ws → va_S A s.heap H locs → (ro → H = s.heap ∧ locs = []) → lv_has ls nL lv → W p l e R s m args below meth c H locs k n Q (F0 m pc ls st)
def OKx (C : GX) (cc : ByteArray) (nL : Nat) (Ts : List Cond) (own : String) (RM : Room) (cI cO : ClassId) : Prop := match C with
  | (p, l, e, R, s, m, args, below, meth, c, A, D, Q, ro) => p.tables.exec = Jvm.exec ∧ c.code = cc ∧ c.maxLocals = nL ∧ s.vm.findClass own = some m.cls ∧ (∀ w ∈ Ts, w.before args s = true) ∧ va_K D vwCl (gT cI cO) s ∧ (∀ q, s.heap.size ≤ q → A q) ∧ R = RM
def lvi (x : Nat × Value) : List (Nat × Value) → List (Nat × Value)
  | [] => [x]
  | y :: r => if x.1 < y.1 then x :: y :: r else y :: lvi x r
theorem lvi_mem {x q : Nat × Value} : ∀ {l : List (Nat × Value)}, q ∈ lvi x l → q = x ∨ q ∈ l
  | [], h => by
    rw [lvi] at h
    exact Or.inl (List.mem_singleton.mp h)
  | y :: r, h => by
    rw [lvi] at h
    split at h
    · rcases List.mem_cons.mp h with h | h
      · exact Or.inl h
      · exact Or.inr h
    · rcases List.mem_cons.mp h with h | h
      · exact Or.inr (by rw [h]; exact List.mem_cons_self)
      · rcases lvi_mem h with h | h
        · exact Or.inl h
        · exact Or.inr (List.mem_cons_of_mem _ h)
def lvs (i : Nat) (v : Value) (lv : List (Nat × Value)) : List (Nat × Value) := lvi (i, v) (lv.filter (fun q => !(q.1 == i) && !(q.1 + 1 == i && q.2.category == 2)))
def lvl (i : Nat) (v : Value) (lv : List (Nat × Value)) : List (Nat × Value) := lvi (i, v) (lv.filter (fun q => !(q.1 == i) && (!(q.1 == i + 1) && !(q.1 + 1 == i && q.2.category == 2))))
theorem lvi_has {ls : Array Slot} {nL : Nat} {x : Nat × Value} {l : List (Nat × Value)} (h : lv_has ls nL (x :: l)) : lv_has ls nL (lvi x l) :=
  ⟨h.1, h.2.1, fun q hq => h.2.2 q (by
    rcases lvi_mem hq with h9 | h9
    · rw [h9]; exact List.mem_cons_self
    · exact List.mem_cons_of_mem _ h9)⟩
section GGR
variable {C : GX} {nL : Nat} {ws ws' : va_W} {k n pc : Nat} {lv lv' : List (Nat × Value)} {st : List Value} {cc : ByteArray} {Ts : List Cond} {own : String} {RM : Room} {cI cO : ClassId}
theorem g_eq (e : ws = ws') (kk : GG C nL ws' k n pc lv st) : GG C nL ws k n pc lv st := e ▸ kk
theorem g_lv (e : lv = lv') (kk : GG C nL ws k n pc lv' st) : GG C nL ws k n pc lv st := e ▸ kk
theorem g_topi {x y : Int32} (e : x = y) (kk : GG C nL ws k n pc lv (.int y :: st)) : GG C nL ws k n pc lv (.int x :: st) := e ▸ kk
theorem g_topl {x y : Int64} (e : x = y) (kk : GG C nL ws k n pc lv (.long y :: st)) : GG C nL ws k n pc lv (.long x :: st) := e ▸ kk
theorem g_wid {k' n' : Nat} (h1 : k ≤ k') (h2 : n ≤ n') (kk : GG C nL ws k' n' pc lv st) : GG C nL ws k n pc lv st := by
  obtain ⟨p, l, e, R, s, m, args, below, meth, c, A, D, Q, ro⟩ := C
  intro H locs ls hP hD hS hro hl
  exact W.widen h1 h2 (kk H locs ls hP hD hS hro hl)
theorem g_sub (is : List Nat) (hn : va_nd is = true) (hs : is.map (fun i => ws[i]?) = ws'.map some) (kk : GG C nL ws' k n pc lv st) : GG C nL ws k n pc lv st := by
  obtain ⟨p, l, e, R, s, m, args, below, meth, c, A, D, Q, ro⟩ := C
  intro H locs ls hP hD hS hro hl
  refine kk H locs ls (fun j q hj => ?_) (hD.sub is hn hs) hS hro hl
  have h1 : (is.map (fun i => ws[i]?))[j]? = some (some q) := by rw [hs, List.getElem?_map, hj]; rfl
  rw [List.getElem?_map] at h1
  cases hi : is[j]? with
  | none => rw [hi] at h1; cases h1
  | some i => rw [hi] at h1; exact hP i q (Option.some.inj h1)
theorem g_iload_n (h : OKx C cc nL Ts own RM cI cO) {i : Fin 4} {x : Int32} (hdg : decode cc pc = .ok (.iload_n i, 1)) (j : Nat) (hj : lv[j]? = some ((i : Nat), .int x)) (kk : GG C nL ws k n (pc + 1) lv (.int x :: st)) : GG C nL ws k n pc lv st := by
  obtain ⟨p, l, e, R, s, m, args, below, meth, c, A, D, Q, ro⟩ := C
  obtain ⟨hx, hb, hml, hown, hts, hK, hA, rfl⟩ := h
  intro H locs ls hP hD hS hro hl
  exact lv_iload_n hx hb hdg rfl (lv_at hl j hj) (kk H locs ls hP hD hS hro hl)
theorem g_iload (h : OKx C cc nL Ts own RM cI cO) {i : Nat} {x : Int32} (hdg : decode cc pc = .ok (.iload i, 2)) (j : Nat) (hj : lv[j]? = some (i, .int x)) (kk : GG C nL ws k n (pc + 2) lv (.int x :: st)) : GG C nL ws k n pc lv st := by
  obtain ⟨p, l, e, R, s, m, args, below, meth, c, A, D, Q, ro⟩ := C
  obtain ⟨hx, hb, hml, hown, hts, hK, hA, rfl⟩ := h
  intro H locs ls hP hD hS hro hl
  exact lv_iload hx hb hdg (lv_at hl j hj) (kk H locs ls hP hD hS hro hl)
theorem g_lload_n (h : OKx C cc nL Ts own RM cI cO) {i : Fin 4} {x : Int64} (hdg : decode cc pc = .ok (.lload_n i, 1)) (j : Nat) (hj : lv[j]? = some ((i : Nat), .long x)) (kk : GG C nL ws k n (pc + 1) lv (.long x :: st)) : GG C nL ws k n pc lv st := by
  obtain ⟨p, l, e, R, s, m, args, below, meth, c, A, D, Q, ro⟩ := C
  obtain ⟨hx, hb, hml, hown, hts, hK, hA, rfl⟩ := h
  intro H locs ls hP hD hS hro hl
  exact lv_lload_n hx hb hdg rfl (lv_at hl j hj) (kk H locs ls hP hD hS hro hl)
theorem g_lload (h : OKx C cc nL Ts own RM cI cO) {i : Nat} {x : Int64} (hdg : decode cc pc = .ok (.lload i, 2)) (j : Nat) (hj : lv[j]? = some (i, .long x)) (kk : GG C nL ws k n (pc + 2) lv (.long x :: st)) : GG C nL ws k n pc lv st := by
  obtain ⟨p, l, e, R, s, m, args, below, meth, c, A, D, Q, ro⟩ := C
  obtain ⟨hx, hb, hml, hown, hts, hK, hA, rfl⟩ := h
  intro H locs ls hP hD hS hro hl
  exact lv_lload hx hb hdg (lv_at hl j hj) (kk H locs ls hP hD hS hro hl)
theorem g_aload_n (h : OKx C cc nL Ts own RM cI cO) {i : Fin 4} {x : Nat} (hdg : decode cc pc = .ok (.aload_n i, 1)) (j : Nat) (hj : lv[j]? = some ((i : Nat), .ref x)) (kk : GG C nL ws k n (pc + 1) lv (.ref x :: st)) : GG C nL ws k n pc lv st := by
  obtain ⟨p, l, e, R, s, m, args, below, meth, c, A, D, Q, ro⟩ := C
  obtain ⟨hx, hb, hml, hown, hts, hK, hA, rfl⟩ := h
  intro H locs ls hP hD hS hro hl
  exact lv_aload_n hx hb hdg rfl (lv_at hl j hj) (kk H locs ls hP hD hS hro hl)
theorem g_aload (h : OKx C cc nL Ts own RM cI cO) {i : Nat} {x : Nat} (hdg : decode cc pc = .ok (.aload i, 2)) (j : Nat) (hj : lv[j]? = some (i, .ref x)) (kk : GG C nL ws k n (pc + 2) lv (.ref x :: st)) : GG C nL ws k n pc lv st := by
  obtain ⟨p, l, e, R, s, m, args, below, meth, c, A, D, Q, ro⟩ := C
  obtain ⟨hx, hb, hml, hown, hts, hK, hA, rfl⟩ := h
  intro H locs ls hP hD hS hro hl
  exact lv_aload hx hb hdg (lv_at hl j hj) (kk H locs ls hP hD hS hro hl)
theorem g_istore_n (h : OKx C cc nL Ts own RM cI cO) {i : Fin 4} {x : Int32} (hdg : decode cc pc = .ok (.istore_n i, 1)) (hn : (i : Nat) < nL) (hl9 : lvs i (.int x) lv = lv') (kk : GG C nL ws k n (pc + 1) lv' st) : GG C nL ws k n pc lv (.int x :: st) := by
  obtain ⟨p, l, e, R, s, m, args, below, meth, c, A, D, Q, ro⟩ := C
  obtain ⟨hx, hb, hml, hown, hts, hK, hA, rfl⟩ := h
  intro H locs ls hP hD hS hro hl
  subst hl9
  exact lv_istore_n hx hb hdg rfl hl hn rfl (fun ls9 h9 => kk H locs ls9 hP hD hS hro (lvi_has h9))
theorem g_istore (h : OKx C cc nL Ts own RM cI cO) {i : Nat} {x : Int32} (hdg : decode cc pc = .ok (.istore i, 2)) (hn : i < nL) (hl9 : lvs i (.int x) lv = lv') (kk : GG C nL ws k n (pc + 2) lv' st) : GG C nL ws k n pc lv (.int x :: st) := by
  obtain ⟨p, l, e, R, s, m, args, below, meth, c, A, D, Q, ro⟩ := C
  obtain ⟨hx, hb, hml, hown, hts, hK, hA, rfl⟩ := h
  intro H locs ls hP hD hS hro hl
  subst hl9
  exact lv_istore hx hb hdg hl hn rfl (fun ls9 h9 => kk H locs ls9 hP hD hS hro (lvi_has h9))
theorem g_lstore_n (h : OKx C cc nL Ts own RM cI cO) {i : Fin 4} {x : Int64} (hdg : decode cc pc = .ok (.lstore_n i, 1)) (hn : (i : Nat) + 1 < nL) (hl9 : lvl i (.long x) lv = lv') (kk : GG C nL ws k n (pc + 1) lv' st) : GG C nL ws k n pc lv (.long x :: st) := by
  obtain ⟨p, l, e, R, s, m, args, below, meth, c, A, D, Q, ro⟩ := C
  obtain ⟨hx, hb, hml, hown, hts, hK, hA, rfl⟩ := h
  intro H locs ls hP hD hS hro hl
  subst hl9
  exact lv_lstore_n hx hb hdg rfl hl hn rfl (fun ls9 h9 => kk H locs ls9 hP hD hS hro (lvi_has h9))
theorem g_lstore (h : OKx C cc nL Ts own RM cI cO) {i : Nat} {x : Int64} (hdg : decode cc pc = .ok (.lstore i, 2)) (hn : i + 1 < nL) (hl9 : lvl i (.long x) lv = lv') (kk : GG C nL ws k n (pc + 2) lv' st) : GG C nL ws k n pc lv (.long x :: st) := by
  obtain ⟨p, l, e, R, s, m, args, below, meth, c, A, D, Q, ro⟩ := C
  obtain ⟨hx, hb, hml, hown, hts, hK, hA, rfl⟩ := h
  intro H locs ls hP hD hS hro hl
  subst hl9
  exact lv_lstore hx hb hdg hl hn rfl (fun ls9 h9 => kk H locs ls9 hP hD hS hro (lvi_has h9))
theorem g_astore_n (h : OKx C cc nL Ts own RM cI cO) {i : Fin 4} {x : Nat} (hdg : decode cc pc = .ok (.astore_n i, 1)) (hn : (i : Nat) < nL) (hl9 : lvs i (.ref x) lv = lv') (kk : GG C nL ws k n (pc + 1) lv' st) : GG C nL ws k n pc lv (.ref x :: st) := by
  obtain ⟨p, l, e, R, s, m, args, below, meth, c, A, D, Q, ro⟩ := C
  obtain ⟨hx, hb, hml, hown, hts, hK, hA, rfl⟩ := h
  intro H locs ls hP hD hS hro hl
  subst hl9
  exact lv_astore_n hx hb hdg rfl hl hn rfl (fun ls9 h9 => kk H locs ls9 hP hD hS hro (lvi_has h9))
theorem g_iinc (h : OKx C cc nL Ts own RM cI cO) {i : Nat} {d : Int} {x v : Int32} (hdg : decode cc pc = .ok (.iinc i d, 3)) (j : Nat) (hj : lv[j]? = some (i, .int x)) (hv : x + Int32.ofInt d = v) (hn : i < nL) (hl9 : lvs i (.int v) lv = lv') (kk : GG C nL ws k n (pc + 3) lv' st) : GG C nL ws k n pc lv st := by
  obtain ⟨p, l, e, R, s, m, args, below, meth, c, A, D, Q, ro⟩ := C
  obtain ⟨hx, hb, hml, hown, hts, hK, hA, rfl⟩ := h
  intro H locs ls hP hD hS hro hl
  subst hl9
  exact lv_iinc hx hb hdg hl hj hv hn rfl (fun ls9 h9 => kk H locs ls9 hP hD hS hro (lvi_has h9))
theorem g_iconst (h : OKx C cc nL Ts own RM cI cO) {z : Int} {v : Int32} (hdg : decode cc pc = .ok (.iconst z, 1)) (hv : Int32.ofInt z = v) (kk : GG C nL ws k n (pc + 1) lv (.int v :: st)) : GG C nL ws k n pc lv st := by
  obtain ⟨p, l, e, R, s, m, args, below, meth, c, A, D, Q, ro⟩ := C
  obtain ⟨hx, hb, hml, hown, hts, hK, hA, rfl⟩ := h
  intro H locs ls hP hD hS hro hl
  exact lv_iconst hx hb hdg hv (kk H locs ls hP hD hS hro hl)
theorem g_bipush (h : OKx C cc nL Ts own RM cI cO) {z : Int} {v : Int32} (hdg : decode cc pc = .ok (.bipush z, 2)) (hv : (Int8.ofInt z).toInt32 = v) (kk : GG C nL ws k n (pc + 2) lv (.int v :: st)) : GG C nL ws k n pc lv st := by
  obtain ⟨p, l, e, R, s, m, args, below, meth, c, A, D, Q, ro⟩ := C
  obtain ⟨hx, hb, hml, hown, hts, hK, hA, rfl⟩ := h
  intro H locs ls hP hD hS hro hl
  exact lv_bipush hx hb hdg hv (kk H locs ls hP hD hS hro hl)
theorem g_sipush (h : OKx C cc nL Ts own RM cI cO) {z : Int} {v : Int32} (hdg : decode cc pc = .ok (.sipush z, 3)) (hv : (Int16.ofInt z).toInt32 = v) (kk : GG C nL ws k n (pc + 3) lv (.int v :: st)) : GG C nL ws k n pc lv st := by
  obtain ⟨p, l, e, R, s, m, args, below, meth, c, A, D, Q, ro⟩ := C
  obtain ⟨hx, hb, hml, hown, hts, hK, hA, rfl⟩ := h
  intro H locs ls hP hD hS hro hl
  exact lv_sipush hx hb hdg hv (kk H locs ls hP hD hS hro hl)
theorem g_lconst (h : OKx C cc nL Ts own RM cI cO) {z : Fin 2} {v : Int64} (hdg : decode cc pc = .ok (.lconst z, 1)) (hv : Int64.ofNat (z : Nat) = v) (kk : GG C nL ws k n (pc + 1) lv (.long v :: st)) : GG C nL ws k n pc lv st := by
  obtain ⟨p, l, e, R, s, m, args, below, meth, c, A, D, Q, ro⟩ := C
  obtain ⟨hx, hb, hml, hown, hts, hK, hA, rfl⟩ := h
  intro H locs ls hP hD hS hro hl
  exact lv_lconst hx hb hdg hv (kk H locs ls hP hD hS hro hl)
theorem g_iadd (h : OKx C cc nL Ts own RM cI cO) {x y : Int32} (hdg : decode cc pc = .ok (.iadd, 1))  (kk : GG C nL ws k n (pc + 1) lv (.int (x + y) :: st)) : GG C nL ws k n pc lv (.int y :: .int x :: st) := by
  obtain ⟨p, l, e, R, s, m, args, below, meth, c, A, D, Q, ro⟩ := C
  obtain ⟨hx, hb, hml, hown, hts, hK, hA, rfl⟩ := h
  intro H locs ls hP hD hS hro hl
  exact lv_iadd hx hb hdg (kk H locs ls hP hD hS hro hl)
theorem g_isub (h : OKx C cc nL Ts own RM cI cO) {x y : Int32} (hdg : decode cc pc = .ok (.isub, 1))  (kk : GG C nL ws k n (pc + 1) lv (.int (x - y) :: st)) : GG C nL ws k n pc lv (.int y :: .int x :: st) := by
  obtain ⟨p, l, e, R, s, m, args, below, meth, c, A, D, Q, ro⟩ := C
  obtain ⟨hx, hb, hml, hown, hts, hK, hA, rfl⟩ := h
  intro H locs ls hP hD hS hro hl
  exact lv_isub hx hb hdg (kk H locs ls hP hD hS hro hl)
theorem g_imul (h : OKx C cc nL Ts own RM cI cO) {x y : Int32} (hdg : decode cc pc = .ok (.imul, 1))  (kk : GG C nL ws k n (pc + 1) lv (.int (x * y) :: st)) : GG C nL ws k n pc lv (.int y :: .int x :: st) := by
  obtain ⟨p, l, e, R, s, m, args, below, meth, c, A, D, Q, ro⟩ := C
  obtain ⟨hx, hb, hml, hown, hts, hK, hA, rfl⟩ := h
  intro H locs ls hP hD hS hro hl
  exact lv_imul hx hb hdg (kk H locs ls hP hD hS hro hl)
theorem g_iand (h : OKx C cc nL Ts own RM cI cO) {x y : Int32} (hdg : decode cc pc = .ok (.iand, 1))  (kk : GG C nL ws k n (pc + 1) lv (.int (x &&& y) :: st)) : GG C nL ws k n pc lv (.int y :: .int x :: st) := by
  obtain ⟨p, l, e, R, s, m, args, below, meth, c, A, D, Q, ro⟩ := C
  obtain ⟨hx, hb, hml, hown, hts, hK, hA, rfl⟩ := h
  intro H locs ls hP hD hS hro hl
  exact lv_iand hx hb hdg (kk H locs ls hP hD hS hro hl)
theorem g_idiv (h : OKx C cc nL Ts own RM cI cO) {x y : Int32} (hdg : decode cc pc = .ok (.idiv, 1)) (hne : ¬ y = 0) (kk : GG C nL ws k n (pc + 1) lv (.int (x / y) :: st)) : GG C nL ws k n pc lv (.int y :: .int x :: st) := by
  obtain ⟨p, l, e, R, s, m, args, below, meth, c, A, D, Q, ro⟩ := C
  obtain ⟨hx, hb, hml, hown, hts, hK, hA, rfl⟩ := h
  intro H locs ls hP hD hS hro hl
  exact lv_idiv hx hb hdg hne (kk H locs ls hP hD hS hro hl)
theorem g_irem (h : OKx C cc nL Ts own RM cI cO) {x y : Int32} (hdg : decode cc pc = .ok (.irem, 1)) (hne : ¬ y = 0) (kk : GG C nL ws k n (pc + 1) lv (.int (x - x / y * y) :: st)) : GG C nL ws k n pc lv (.int y :: .int x :: st) := by
  obtain ⟨p, l, e, R, s, m, args, below, meth, c, A, D, Q, ro⟩ := C
  obtain ⟨hx, hb, hml, hown, hts, hK, hA, rfl⟩ := h
  intro H locs ls hP hD hS hro hl
  exact lv_irem hx hb hdg hne (kk H locs ls hP hD hS hro hl)
theorem g_lmul (h : OKx C cc nL Ts own RM cI cO) {x y : Int64} (hdg : decode cc pc = .ok (.lmul, 1))  (kk : GG C nL ws k n (pc + 1) lv (.long (x * y) :: st)) : GG C nL ws k n pc lv (.long y :: .long x :: st) := by
  obtain ⟨p, l, e, R, s, m, args, below, meth, c, A, D, Q, ro⟩ := C
  obtain ⟨hx, hb, hml, hown, hts, hK, hA, rfl⟩ := h
  intro H locs ls hP hD hS hro hl
  exact lv_lmul hx hb hdg (kk H locs ls hP hD hS hro hl)
theorem g_lcmp (h : OKx C cc nL Ts own RM cI cO) {x y : Int64} (hdg : decode cc pc = .ok (.lcmp, 1))  (kk : GG C nL ws k n (pc + 1) lv (.int (lg_cmp x y) :: st)) : GG C nL ws k n pc lv (.long y :: .long x :: st) := by
  obtain ⟨p, l, e, R, s, m, args, below, meth, c, A, D, Q, ro⟩ := C
  obtain ⟨hx, hb, hml, hown, hts, hK, hA, rfl⟩ := h
  intro H locs ls hP hD hS hro hl
  exact W.lcmp hx hb hdg (kk H locs ls hP hD hS hro hl)
theorem g_i2l (h : OKx C cc nL Ts own RM cI cO) {x : Int32} (hdg : decode cc pc = .ok (.i2l, 1))  (kk : GG C nL ws k n (pc + 1) lv (.long x.toInt64 :: st)) : GG C nL ws k n pc lv (.int x :: st) := by
  obtain ⟨p, l, e, R, s, m, args, below, meth, c, A, D, Q, ro⟩ := C
  obtain ⟨hx, hb, hml, hown, hts, hK, hA, rfl⟩ := h
  intro H locs ls hP hD hS hro hl
  exact lv_i2l hx hb hdg rfl (kk H locs ls hP hD hS hro hl)
theorem g_dup (h : OKx C cc nL Ts own RM cI cO) {x : Value} (hdg : decode cc pc = .ok (.dup, 1)) (hx9 : x.category = 1) (kk : GG C nL ws k n (pc + 1) lv (x :: x :: st)) : GG C nL ws k n pc lv (x :: st) := by
  obtain ⟨p, l, e, R, s, m, args, below, meth, c, A, D, Q, ro⟩ := C
  obtain ⟨hx, hb, hml, hown, hts, hK, hA, rfl⟩ := h
  intro H locs ls hP hD hS hro hl
  exact lv_dup hx hb hdg hx9 (kk H locs ls hP hD hS hro hl)
theorem g_dup2 (h : OKx C cc nL Ts own RM cI cO) {x y : Value} (hdg : decode cc pc = .ok (.dup2, 1)) (hx9 : x.category = 1) (hy9 : y.category = 1) (kk : GG C nL ws k n (pc + 1) lv (x :: y :: x :: y :: st)) : GG C nL ws k n pc lv (x :: y :: st) := by
  obtain ⟨p, l, e, R, s, m, args, below, meth, c, A, D, Q, ro⟩ := C
  obtain ⟨hx, hb, hml, hown, hts, hK, hA, rfl⟩ := h
  intro H locs ls hP hD hS hro hl
  exact lv_dup2_11 hx hb hdg hx9 hy9 (kk H locs ls hP hD hS hro hl)
theorem g_if_eq (h : OKx C cc nL Ts own RM cI cO) {x : Int32} {off : Int} {tgt : Nat} (hdg : decode cc pc = .ok (.ifCond .eq off, 3)) (ht : (pc : Int) + off = (tgt : Int)) (kt : x = 0 → GG C nL ws k n tgt lv st) (kf : ¬ x = 0 → GG C nL ws k n (pc + 3) lv st) : GG C nL ws k n pc lv (.int x :: st) := by
  obtain ⟨p, l, e, R, s, m, args, below, meth, c, A, D, Q, ro⟩ := C
  obtain ⟨hx, hb, hml, hown, hts, hK, hA, rfl⟩ := h
  intro H locs ls hP hD hS hro hl
  exact lv_if_eq hx hb hdg ht (fun c9 => kt c9 H locs ls hP hD hS hro hl) (fun c9 => kf c9 H locs ls hP hD hS hro hl)
theorem g_icmp_eq (h : OKx C cc nL Ts own RM cI cO) {x y : Int32} {off : Int} {tgt : Nat} (hdg : decode cc pc = .ok (.if_icmp .eq off, 3)) (ht : (pc : Int) + off = (tgt : Int)) (kt : x = y → GG C nL ws k n tgt lv st) (kf : ¬ x = y → GG C nL ws k n (pc + 3) lv st) : GG C nL ws k n pc lv (.int y :: .int x :: st) := by
  obtain ⟨p, l, e, R, s, m, args, below, meth, c, A, D, Q, ro⟩ := C
  obtain ⟨hx, hb, hml, hown, hts, hK, hA, rfl⟩ := h
  intro H locs ls hP hD hS hro hl
  exact lv_icmp_eq hx hb hdg ht (fun c9 => kt c9 H locs ls hP hD hS hro hl) (fun c9 => kf c9 H locs ls hP hD hS hro hl)
theorem g_if_ne (h : OKx C cc nL Ts own RM cI cO) {x : Int32} {off : Int} {tgt : Nat} (hdg : decode cc pc = .ok (.ifCond .ne off, 3)) (ht : (pc : Int) + off = (tgt : Int)) (kt : ¬ x = 0 → GG C nL ws k n tgt lv st) (kf : x = 0 → GG C nL ws k n (pc + 3) lv st) : GG C nL ws k n pc lv (.int x :: st) := by
  obtain ⟨p, l, e, R, s, m, args, below, meth, c, A, D, Q, ro⟩ := C
  obtain ⟨hx, hb, hml, hown, hts, hK, hA, rfl⟩ := h
  intro H locs ls hP hD hS hro hl
  exact lv_if_ne hx hb hdg ht (fun c9 => kt c9 H locs ls hP hD hS hro hl) (fun c9 => kf c9 H locs ls hP hD hS hro hl)
theorem g_icmp_ne (h : OKx C cc nL Ts own RM cI cO) {x y : Int32} {off : Int} {tgt : Nat} (hdg : decode cc pc = .ok (.if_icmp .ne off, 3)) (ht : (pc : Int) + off = (tgt : Int)) (kt : ¬ x = y → GG C nL ws k n tgt lv st) (kf : x = y → GG C nL ws k n (pc + 3) lv st) : GG C nL ws k n pc lv (.int y :: .int x :: st) := by
  obtain ⟨p, l, e, R, s, m, args, below, meth, c, A, D, Q, ro⟩ := C
  obtain ⟨hx, hb, hml, hown, hts, hK, hA, rfl⟩ := h
  intro H locs ls hP hD hS hro hl
  exact lv_icmp_ne hx hb hdg ht (fun c9 => kt c9 H locs ls hP hD hS hro hl) (fun c9 => kf c9 H locs ls hP hD hS hro hl)
theorem g_if_lt (h : OKx C cc nL Ts own RM cI cO) {x : Int32} {off : Int} {tgt : Nat} (hdg : decode cc pc = .ok (.ifCond .lt off, 3)) (ht : (pc : Int) + off = (tgt : Int)) (kt : x < 0 → GG C nL ws k n tgt lv st) (kf : ¬ x < 0 → GG C nL ws k n (pc + 3) lv st) : GG C nL ws k n pc lv (.int x :: st) := by
  obtain ⟨p, l, e, R, s, m, args, below, meth, c, A, D, Q, ro⟩ := C
  obtain ⟨hx, hb, hml, hown, hts, hK, hA, rfl⟩ := h
  intro H locs ls hP hD hS hro hl
  exact lv_if_lt hx hb hdg ht (fun c9 => kt c9 H locs ls hP hD hS hro hl) (fun c9 => kf c9 H locs ls hP hD hS hro hl)
theorem g_icmp_lt (h : OKx C cc nL Ts own RM cI cO) {x y : Int32} {off : Int} {tgt : Nat} (hdg : decode cc pc = .ok (.if_icmp .lt off, 3)) (ht : (pc : Int) + off = (tgt : Int)) (kt : x < y → GG C nL ws k n tgt lv st) (kf : ¬ x < y → GG C nL ws k n (pc + 3) lv st) : GG C nL ws k n pc lv (.int y :: .int x :: st) := by
  obtain ⟨p, l, e, R, s, m, args, below, meth, c, A, D, Q, ro⟩ := C
  obtain ⟨hx, hb, hml, hown, hts, hK, hA, rfl⟩ := h
  intro H locs ls hP hD hS hro hl
  exact lv_icmp_lt hx hb hdg ht (fun c9 => kt c9 H locs ls hP hD hS hro hl) (fun c9 => kf c9 H locs ls hP hD hS hro hl)
theorem g_if_ge (h : OKx C cc nL Ts own RM cI cO) {x : Int32} {off : Int} {tgt : Nat} (hdg : decode cc pc = .ok (.ifCond .ge off, 3)) (ht : (pc : Int) + off = (tgt : Int)) (kt : 0 ≤ x → GG C nL ws k n tgt lv st) (kf : ¬ 0 ≤ x → GG C nL ws k n (pc + 3) lv st) : GG C nL ws k n pc lv (.int x :: st) := by
  obtain ⟨p, l, e, R, s, m, args, below, meth, c, A, D, Q, ro⟩ := C
  obtain ⟨hx, hb, hml, hown, hts, hK, hA, rfl⟩ := h
  intro H locs ls hP hD hS hro hl
  exact lv_if_ge hx hb hdg ht (fun c9 => kt c9 H locs ls hP hD hS hro hl) (fun c9 => kf c9 H locs ls hP hD hS hro hl)
theorem g_icmp_ge (h : OKx C cc nL Ts own RM cI cO) {x y : Int32} {off : Int} {tgt : Nat} (hdg : decode cc pc = .ok (.if_icmp .ge off, 3)) (ht : (pc : Int) + off = (tgt : Int)) (kt : y ≤ x → GG C nL ws k n tgt lv st) (kf : ¬ y ≤ x → GG C nL ws k n (pc + 3) lv st) : GG C nL ws k n pc lv (.int y :: .int x :: st) := by
  obtain ⟨p, l, e, R, s, m, args, below, meth, c, A, D, Q, ro⟩ := C
  obtain ⟨hx, hb, hml, hown, hts, hK, hA, rfl⟩ := h
  intro H locs ls hP hD hS hro hl
  exact lv_icmp_ge hx hb hdg ht (fun c9 => kt c9 H locs ls hP hD hS hro hl) (fun c9 => kf c9 H locs ls hP hD hS hro hl)
theorem g_if_gt (h : OKx C cc nL Ts own RM cI cO) {x : Int32} {off : Int} {tgt : Nat} (hdg : decode cc pc = .ok (.ifCond .gt off, 3)) (ht : (pc : Int) + off = (tgt : Int)) (kt : 0 < x → GG C nL ws k n tgt lv st) (kf : ¬ 0 < x → GG C nL ws k n (pc + 3) lv st) : GG C nL ws k n pc lv (.int x :: st) := by
  obtain ⟨p, l, e, R, s, m, args, below, meth, c, A, D, Q, ro⟩ := C
  obtain ⟨hx, hb, hml, hown, hts, hK, hA, rfl⟩ := h
  intro H locs ls hP hD hS hro hl
  exact lv_if_gt hx hb hdg ht (fun c9 => kt c9 H locs ls hP hD hS hro hl) (fun c9 => kf c9 H locs ls hP hD hS hro hl)
theorem g_icmp_gt (h : OKx C cc nL Ts own RM cI cO) {x y : Int32} {off : Int} {tgt : Nat} (hdg : decode cc pc = .ok (.if_icmp .gt off, 3)) (ht : (pc : Int) + off = (tgt : Int)) (kt : y < x → GG C nL ws k n tgt lv st) (kf : ¬ y < x → GG C nL ws k n (pc + 3) lv st) : GG C nL ws k n pc lv (.int y :: .int x :: st) := by
  obtain ⟨p, l, e, R, s, m, args, below, meth, c, A, D, Q, ro⟩ := C
  obtain ⟨hx, hb, hml, hown, hts, hK, hA, rfl⟩ := h
  intro H locs ls hP hD hS hro hl
  exact lv_icmp_gt hx hb hdg ht (fun c9 => kt c9 H locs ls hP hD hS hro hl) (fun c9 => kf c9 H locs ls hP hD hS hro hl)
theorem g_if_le (h : OKx C cc nL Ts own RM cI cO) {x : Int32} {off : Int} {tgt : Nat} (hdg : decode cc pc = .ok (.ifCond .le off, 3)) (ht : (pc : Int) + off = (tgt : Int)) (kt : x ≤ 0 → GG C nL ws k n tgt lv st) (kf : ¬ x ≤ 0 → GG C nL ws k n (pc + 3) lv st) : GG C nL ws k n pc lv (.int x :: st) := by
  obtain ⟨p, l, e, R, s, m, args, below, meth, c, A, D, Q, ro⟩ := C
  obtain ⟨hx, hb, hml, hown, hts, hK, hA, rfl⟩ := h
  intro H locs ls hP hD hS hro hl
  exact lv_if_le hx hb hdg ht (fun c9 => kt c9 H locs ls hP hD hS hro hl) (fun c9 => kf c9 H locs ls hP hD hS hro hl)
theorem g_icmp_le (h : OKx C cc nL Ts own RM cI cO) {x y : Int32} {off : Int} {tgt : Nat} (hdg : decode cc pc = .ok (.if_icmp .le off, 3)) (ht : (pc : Int) + off = (tgt : Int)) (kt : x ≤ y → GG C nL ws k n tgt lv st) (kf : ¬ x ≤ y → GG C nL ws k n (pc + 3) lv st) : GG C nL ws k n pc lv (.int y :: .int x :: st) := by
  obtain ⟨p, l, e, R, s, m, args, below, meth, c, A, D, Q, ro⟩ := C
  obtain ⟨hx, hb, hml, hown, hts, hK, hA, rfl⟩ := h
  intro H locs ls hP hD hS hro hl
  exact lv_icmp_le hx hb hdg ht (fun c9 => kt c9 H locs ls hP hD hS hro hl) (fun c9 => kf c9 H locs ls hP hD hS hro hl)
theorem g_if_eq_t (h : OKx C cc nL Ts own RM cI cO) {x : Int32} {off : Int} {tgt : Nat} (hdg : decode cc pc = .ok (.ifCond .eq off, 3)) (ht : (pc : Int) + off = (tgt : Int)) (hc : x = 0) (kk : GG C nL ws k n tgt lv st) : GG C nL ws k n pc lv (.int x :: st) := g_if_eq h hdg ht (fun _ => kk) (fun c9 => absurd hc c9)
theorem g_if_eq_f (h : OKx C cc nL Ts own RM cI cO) {x : Int32} {off : Int} {tgt : Nat} (hdg : decode cc pc = .ok (.ifCond .eq off, 3)) (ht : (pc : Int) + off = (tgt : Int)) (hc : ¬ x = 0) (kk : GG C nL ws k n (pc + 3) lv st) : GG C nL ws k n pc lv (.int x :: st) := g_if_eq h hdg ht (fun c9 => absurd c9 hc) (fun _ => kk)
theorem g_icmp_eq_t (h : OKx C cc nL Ts own RM cI cO) {x y : Int32} {off : Int} {tgt : Nat} (hdg : decode cc pc = .ok (.if_icmp .eq off, 3)) (ht : (pc : Int) + off = (tgt : Int)) (hc : x = y) (kk : GG C nL ws k n tgt lv st) : GG C nL ws k n pc lv (.int y :: .int x :: st) := g_icmp_eq h hdg ht (fun _ => kk) (fun c9 => absurd hc c9)
theorem g_icmp_eq_f (h : OKx C cc nL Ts own RM cI cO) {x y : Int32} {off : Int} {tgt : Nat} (hdg : decode cc pc = .ok (.if_icmp .eq off, 3)) (ht : (pc : Int) + off = (tgt : Int)) (hc : ¬ x = y) (kk : GG C nL ws k n (pc + 3) lv st) : GG C nL ws k n pc lv (.int y :: .int x :: st) := g_icmp_eq h hdg ht (fun c9 => absurd c9 hc) (fun _ => kk)
theorem g_if_ne_t (h : OKx C cc nL Ts own RM cI cO) {x : Int32} {off : Int} {tgt : Nat} (hdg : decode cc pc = .ok (.ifCond .ne off, 3)) (ht : (pc : Int) + off = (tgt : Int)) (hc : ¬ x = 0) (kk : GG C nL ws k n tgt lv st) : GG C nL ws k n pc lv (.int x :: st) := g_if_ne h hdg ht (fun _ => kk) (fun c9 => absurd c9 hc)
theorem g_if_ne_f (h : OKx C cc nL Ts own RM cI cO) {x : Int32} {off : Int} {tgt : Nat} (hdg : decode cc pc = .ok (.ifCond .ne off, 3)) (ht : (pc : Int) + off = (tgt : Int)) (hc : x = 0) (kk : GG C nL ws k n (pc + 3) lv st) : GG C nL ws k n pc lv (.int x :: st) := g_if_ne h hdg ht (fun c9 => absurd hc c9) (fun _ => kk)
theorem g_icmp_ne_t (h : OKx C cc nL Ts own RM cI cO) {x y : Int32} {off : Int} {tgt : Nat} (hdg : decode cc pc = .ok (.if_icmp .ne off, 3)) (ht : (pc : Int) + off = (tgt : Int)) (hc : ¬ x = y) (kk : GG C nL ws k n tgt lv st) : GG C nL ws k n pc lv (.int y :: .int x :: st) := g_icmp_ne h hdg ht (fun _ => kk) (fun c9 => absurd c9 hc)
theorem g_icmp_ne_f (h : OKx C cc nL Ts own RM cI cO) {x y : Int32} {off : Int} {tgt : Nat} (hdg : decode cc pc = .ok (.if_icmp .ne off, 3)) (ht : (pc : Int) + off = (tgt : Int)) (hc : x = y) (kk : GG C nL ws k n (pc + 3) lv st) : GG C nL ws k n pc lv (.int y :: .int x :: st) := g_icmp_ne h hdg ht (fun c9 => absurd hc c9) (fun _ => kk)
theorem g_if_lt_t (h : OKx C cc nL Ts own RM cI cO) {x : Int32} {off : Int} {tgt : Nat} (hdg : decode cc pc = .ok (.ifCond .lt off, 3)) (ht : (pc : Int) + off = (tgt : Int)) (hc : x < 0) (kk : GG C nL ws k n tgt lv st) : GG C nL ws k n pc lv (.int x :: st) := g_if_lt h hdg ht (fun _ => kk) (fun c9 => absurd hc c9)
theorem g_if_lt_f (h : OKx C cc nL Ts own RM cI cO) {x : Int32} {off : Int} {tgt : Nat} (hdg : decode cc pc = .ok (.ifCond .lt off, 3)) (ht : (pc : Int) + off = (tgt : Int)) (hc : ¬ x < 0) (kk : GG C nL ws k n (pc + 3) lv st) : GG C nL ws k n pc lv (.int x :: st) := g_if_lt h hdg ht (fun c9 => absurd c9 hc) (fun _ => kk)
theorem g_icmp_lt_t (h : OKx C cc nL Ts own RM cI cO) {x y : Int32} {off : Int} {tgt : Nat} (hdg : decode cc pc = .ok (.if_icmp .lt off, 3)) (ht : (pc : Int) + off = (tgt : Int)) (hc : x < y) (kk : GG C nL ws k n tgt lv st) : GG C nL ws k n pc lv (.int y :: .int x :: st) := g_icmp_lt h hdg ht (fun _ => kk) (fun c9 => absurd hc c9)
theorem g_icmp_lt_f (h : OKx C cc nL Ts own RM cI cO) {x y : Int32} {off : Int} {tgt : Nat} (hdg : decode cc pc = .ok (.if_icmp .lt off, 3)) (ht : (pc : Int) + off = (tgt : Int)) (hc : ¬ x < y) (kk : GG C nL ws k n (pc + 3) lv st) : GG C nL ws k n pc lv (.int y :: .int x :: st) := g_icmp_lt h hdg ht (fun c9 => absurd c9 hc) (fun _ => kk)
theorem g_if_ge_t (h : OKx C cc nL Ts own RM cI cO) {x : Int32} {off : Int} {tgt : Nat} (hdg : decode cc pc = .ok (.ifCond .ge off, 3)) (ht : (pc : Int) + off = (tgt : Int)) (hc : 0 ≤ x) (kk : GG C nL ws k n tgt lv st) : GG C nL ws k n pc lv (.int x :: st) := g_if_ge h hdg ht (fun _ => kk) (fun c9 => absurd hc c9)
theorem g_if_ge_f (h : OKx C cc nL Ts own RM cI cO) {x : Int32} {off : Int} {tgt : Nat} (hdg : decode cc pc = .ok (.ifCond .ge off, 3)) (ht : (pc : Int) + off = (tgt : Int)) (hc : ¬ 0 ≤ x) (kk : GG C nL ws k n (pc + 3) lv st) : GG C nL ws k n pc lv (.int x :: st) := g_if_ge h hdg ht (fun c9 => absurd c9 hc) (fun _ => kk)
theorem g_icmp_ge_t (h : OKx C cc nL Ts own RM cI cO) {x y : Int32} {off : Int} {tgt : Nat} (hdg : decode cc pc = .ok (.if_icmp .ge off, 3)) (ht : (pc : Int) + off = (tgt : Int)) (hc : y ≤ x) (kk : GG C nL ws k n tgt lv st) : GG C nL ws k n pc lv (.int y :: .int x :: st) := g_icmp_ge h hdg ht (fun _ => kk) (fun c9 => absurd hc c9)
theorem g_icmp_ge_f (h : OKx C cc nL Ts own RM cI cO) {x y : Int32} {off : Int} {tgt : Nat} (hdg : decode cc pc = .ok (.if_icmp .ge off, 3)) (ht : (pc : Int) + off = (tgt : Int)) (hc : ¬ y ≤ x) (kk : GG C nL ws k n (pc + 3) lv st) : GG C nL ws k n pc lv (.int y :: .int x :: st) := g_icmp_ge h hdg ht (fun c9 => absurd c9 hc) (fun _ => kk)
theorem g_if_gt_t (h : OKx C cc nL Ts own RM cI cO) {x : Int32} {off : Int} {tgt : Nat} (hdg : decode cc pc = .ok (.ifCond .gt off, 3)) (ht : (pc : Int) + off = (tgt : Int)) (hc : 0 < x) (kk : GG C nL ws k n tgt lv st) : GG C nL ws k n pc lv (.int x :: st) := g_if_gt h hdg ht (fun _ => kk) (fun c9 => absurd hc c9)
theorem g_if_gt_f (h : OKx C cc nL Ts own RM cI cO) {x : Int32} {off : Int} {tgt : Nat} (hdg : decode cc pc = .ok (.ifCond .gt off, 3)) (ht : (pc : Int) + off = (tgt : Int)) (hc : ¬ 0 < x) (kk : GG C nL ws k n (pc + 3) lv st) : GG C nL ws k n pc lv (.int x :: st) := g_if_gt h hdg ht (fun c9 => absurd c9 hc) (fun _ => kk)
theorem g_icmp_gt_t (h : OKx C cc nL Ts own RM cI cO) {x y : Int32} {off : Int} {tgt : Nat} (hdg : decode cc pc = .ok (.if_icmp .gt off, 3)) (ht : (pc : Int) + off = (tgt : Int)) (hc : y < x) (kk : GG C nL ws k n tgt lv st) : GG C nL ws k n pc lv (.int y :: .int x :: st) := g_icmp_gt h hdg ht (fun _ => kk) (fun c9 => absurd hc c9)
theorem g_icmp_gt_f (h : OKx C cc nL Ts own RM cI cO) {x y : Int32} {off : Int} {tgt : Nat} (hdg : decode cc pc = .ok (.if_icmp .gt off, 3)) (ht : (pc : Int) + off = (tgt : Int)) (hc : ¬ y < x) (kk : GG C nL ws k n (pc + 3) lv st) : GG C nL ws k n pc lv (.int y :: .int x :: st) := g_icmp_gt h hdg ht (fun c9 => absurd c9 hc) (fun _ => kk)
theorem g_if_le_t (h : OKx C cc nL Ts own RM cI cO) {x : Int32} {off : Int} {tgt : Nat} (hdg : decode cc pc = .ok (.ifCond .le off, 3)) (ht : (pc : Int) + off = (tgt : Int)) (hc : x ≤ 0) (kk : GG C nL ws k n tgt lv st) : GG C nL ws k n pc lv (.int x :: st) := g_if_le h hdg ht (fun _ => kk) (fun c9 => absurd hc c9)
theorem g_if_le_f (h : OKx C cc nL Ts own RM cI cO) {x : Int32} {off : Int} {tgt : Nat} (hdg : decode cc pc = .ok (.ifCond .le off, 3)) (ht : (pc : Int) + off = (tgt : Int)) (hc : ¬ x ≤ 0) (kk : GG C nL ws k n (pc + 3) lv st) : GG C nL ws k n pc lv (.int x :: st) := g_if_le h hdg ht (fun c9 => absurd c9 hc) (fun _ => kk)
theorem g_icmp_le_t (h : OKx C cc nL Ts own RM cI cO) {x y : Int32} {off : Int} {tgt : Nat} (hdg : decode cc pc = .ok (.if_icmp .le off, 3)) (ht : (pc : Int) + off = (tgt : Int)) (hc : x ≤ y) (kk : GG C nL ws k n tgt lv st) : GG C nL ws k n pc lv (.int y :: .int x :: st) := g_icmp_le h hdg ht (fun _ => kk) (fun c9 => absurd hc c9)
theorem g_icmp_le_f (h : OKx C cc nL Ts own RM cI cO) {x y : Int32} {off : Int} {tgt : Nat} (hdg : decode cc pc = .ok (.if_icmp .le off, 3)) (ht : (pc : Int) + off = (tgt : Int)) (hc : ¬ x ≤ y) (kk : GG C nL ws k n (pc + 3) lv st) : GG C nL ws k n pc lv (.int y :: .int x :: st) := g_icmp_le h hdg ht (fun c9 => absurd c9 hc) (fun _ => kk)
theorem g_goto (h : OKx C cc nL Ts own RM cI cO) {off : Int} {tgt : Nat} (hdg : decode cc pc = .ok (.goto off, 3)) (ht : (pc : Int) + off = (tgt : Int)) (kk : GG C nL ws k n tgt lv st) : GG C nL ws k n pc lv st := by
  obtain ⟨p, l, e, R, s, m, args, below, meth, c, A, D, Q, ro⟩ := C
  obtain ⟨hx, hb, hml, hown, hts, hK, hA, rfl⟩ := h
  intro H locs ls hP hD hS hro hl
  exact lv_goto hx hb hdg ht (kk H locs ls hP hD hS hro hl)
theorem g_tblIn (h : OKx C cc nL Ts own RM cI cO) {dflt lo hi : Int} {offs : Array Int} {len : Nat} {x : Int32} {off : Int} {tgt : Nat} (hdg : decode cc pc = .ok (.tableswitch dflt lo hi offs, len)) (h1 : ¬ x.toInt < lo) (h2 : ¬ hi < x.toInt) (ho : offs[(x.toInt - lo).toNat]? = some off) (ht : (pc : Int) + off = (tgt : Int)) (kk : GG C nL ws k n tgt lv st) : GG C nL ws k n pc lv (.int x :: st) := by
  obtain ⟨p, l, e, R, s, m, args, below, meth, c, A, D, Q, ro⟩ := C
  obtain ⟨hx, hb, hml, hown, hts, hK, hA, rfl⟩ := h
  intro H locs ls hP hD hS hro hl
  exact lv_tableIn hx hb hdg h1 h2 ho ht (kk H locs ls hP hD hS hro hl)
theorem g_tblOut (h : OKx C cc nL Ts own RM cI cO) {dflt lo hi : Int} {offs : Array Int} {len : Nat} {x : Int32} {tgt : Nat} (hdg : decode cc pc = .ok (.tableswitch dflt lo hi offs, len)) (h1 : x.toInt < lo ∨ hi < x.toInt) (ht : (pc : Int) + dflt = (tgt : Int)) (kk : GG C nL ws k n tgt lv st) : GG C nL ws k n pc lv (.int x :: st) := by
  obtain ⟨p, l, e, R, s, m, args, below, meth, c, A, D, Q, ro⟩ := C
  obtain ⟨hx, hb, hml, hown, hts, hK, hA, rfl⟩ := h
  intro H locs ls hP hD hS hro hl
  exact lv_tableOut hx hb hdg h1 ht (kk H locs ls hP hD hS hro hl)
theorem g_get (h : OKx C cc nL Ts own RM cI cO) {Cn : String} {T : u_T} {N ci idx a : Nat} {fs : List Value} {v : Value} (hdg : decode cc pc = .ok (.getfield idx, 3)) (hin : ∀ w ∈ u_ws Cn T N, w ∈ Ts) (q0 : Nat) (he : ws[q0]? = some (a, .inr (ci, fs))) (hc : vwCl[ci]? = some (Cn, T, N)) (kf : Nat) (hk : kf < N) (hlink : Cond.fieldLink own idx (T kf).1 (T kf).2.1 (T kf).2.2.1 ∈ Ts) (hv : fs[kf]? = some v) (kk : GG C nL ws k n (pc + 3) lv (v :: st)) : GG C nL ws k n pc lv (.ref a :: st) := by
  obtain ⟨p, l, e, R, s, m, args, below, meth, c, A, D, Q, ro⟩ := C
  obtain ⟨hx, hb, hml, hown, hts, hK, hA, rfl⟩ := h
  intro H locs ls hP hD hS hro hl
  exact va_get hx hb hts hin hown hK hP q0 he hc kf hk (hts _ hlink) (fun _ h9 => h9) hv hdg (kk H locs ls hP hD hS hro hl)
theorem g_put (h : OKx C cc nL Ts own RM cI cO) (hw : ¬ gRo C) {Cn : String} {T : u_T} {N ci idx a : Nat} {fs : List Value} {v : Value} {ty : FieldType} (hdg : decode cc pc = .ok (.putfield idx, 3)) (hin : ∀ w ∈ u_ws Cn T N, w ∈ Ts) (ty0 : Nat → FieldType) (hty : ∀ k, k < N → parseFieldDescriptor (T k).2.2.1 = some (ty0 k)) (hnm : ∀ a, a < N → ∀ b, b < N → a ≠ b → (T a).2.1 ≠ (T b).2.1) (q0 : Nat) (he : ws[q0]? = some (a, .inr (ci, fs))) (hc : vwCl[ci]? = some (Cn, T, N)) (kf : Nat) (hk : kf < N) (hlink : Cond.fieldLink own idx (T kf).1 (T kf).2.1 (T kf).2.2.1 ∈ Ts) (hfin : (T kf).2.2.2 = false) (hd : parseFieldDescriptor (T kf).2.2.1 = some ty) (hn : narrow ty v = v) (hfit : fits ty v = true) (hl9 : kf < fs.length) (hws : ws.set q0 (a, .inr (ci, fs.set kf v)) = ws') (kk : GG C nL ws' k n (pc + 3) lv st) : GG C nL ws k n pc lv (v :: .ref a :: st) := by
  obtain ⟨p, l, e, R, s, m, args, below, meth, c, A, D, Q, ro⟩ := C
  obtain ⟨hx, hb, hml, hown, hts, hK, hA, rfl⟩ := h
  intro H locs ls hP hD hS hro hl
  subst hws
  exact va_put hx hb hts hin ty0 hty hnm hown hK hP hD hS q0 he hc kf hk (hts _ hlink) (fun _ h9 => h9) hfin hd hn hfit hl9 hdg (fun H1 locs1 hP1 hD1 hS1 => kk H1 locs1 ls hP1 hD1 hS1 (fun r9 => absurd r9 hw) hl)
theorem g_iald (h : OKx C cc nL Ts own RM cI cO) {a N : Nat} {f : Nat → Int32} {i v : Int32} (hdg : decode cc pc = .ok (.iaload, 1)) (q0 : Nat) (ha : ws[q0]? = some (a, .inl (cI, N, .inl f))) (hin : vp_in i N) (hv : f i.toNatClampNeg = v) (kk : GG C nL ws k n (pc + 1) lv (.int v :: st)) : GG C nL ws k n pc lv (.int i :: .ref a :: st) := by
  obtain ⟨p, l, e, R, s, m, args, below, meth, c, A, D, Q, ro⟩ := C
  obtain ⟨hx, hb, hml, hown, hts, hK, hA, rfl⟩ := h
  intro H locs ls hP hD hS hro hl
  subst hv
  exact va_iald hx hb hK hP q0 0 ha rfl hin hdg (kk H locs ls hP hD hS hro hl)
theorem g_iast (h : OKx C cc nL Ts own RM cI cO) (hw : ¬ gRo C) {a N : Nat} {f : Nat → Int32} {i x : Int32} (hdg : decode cc pc = .ok (.iastore, 1)) (q0 : Nat) (ha : ws[q0]? = some (a, .inl (cI, N, .inl f))) (hin : vp_in i N) (hws : ws.set q0 (a, .inl (cI, N, .inl (upd f i.toNatClampNeg x))) = ws') (kk : GG C nL ws' k n (pc + 1) lv st) : GG C nL ws k n pc lv (.int x :: .int i :: .ref a :: st) := by
  obtain ⟨p, l, e, R, s, m, args, below, meth, c, A, D, Q, ro⟩ := C
  obtain ⟨hx, hb, hml, hown, hts, hK, hA, rfl⟩ := h
  intro H locs ls hP hD hS hro hl
  subst hws
  exact va_iast hx hb hK hP hD hS q0 0 ha rfl hin hdg (fun H1 locs1 hP1 hD1 hS1 => kk H1 locs1 ls hP1 hD1 hS1 (fun r9 => absurd r9 hw) hl)
theorem g_aald (h : OKx C cc nL Ts own RM cI cO) {a N v : Nat} {r : Nat → Option Nat} {i : Int32} (hdg : decode cc pc = .ok (.aaload, 1)) (q0 : Nat) (ha : ws[q0]? = some (a, .inl (cO, N, .inr (.inr (.inr (.inr r)))))) (hin : vp_in i N) (hv : r i.toNatClampNeg = some v) (kk : GG C nL ws k n (pc + 1) lv (.ref v :: st)) : GG C nL ws k n pc lv (.int i :: .ref a :: st) := by
  obtain ⟨p, l, e, R, s, m, args, below, meth, c, A, D, Q, ro⟩ := C
  obtain ⟨hx, hb, hml, hown, hts, hK, hA, rfl⟩ := h
  intro H locs ls hP hD hS hro hl
  have hlt : i.toNatClampNeg < N := Nat.not_le.mp fun q => hin (Or.inr q)
  refine W.aald (v := va_rf (r i.toNatClampNeg)) (ty := .array .int) hx hb (hP q0 _ ha) ((hK.2 1 _ rfl).1 N (fun j => va_rf (r j))) rfl (fun q => by cases q) (by show ¬ (i < 0 ∨ (arrV _ _ _).slots.size ≤ _); rw [arrV_size]; exact hin) (by show (arrV _ _ _).slots[_]? = _; rw [arrV_read _ _ hlt]) rfl rfl hdg ?_
  rw [hv]
  exact (kk H locs ls hP hD hS hro hl)
theorem g_alen (h : OKx C cc nL Ts own RM cI cO) {a N : Nat} {f : Nat → Int32} (hdg : decode cc pc = .ok (.arraylength, 1)) (q0 : Nat) (ha : ws[q0]? = some (a, .inl (cI, N, .inl f))) (kk : GG C nL ws k n (pc + 1) lv (.int (nI N) :: st)) : GG C nL ws k n pc lv (.ref a :: st) := by
  obtain ⟨p, l, e, R, s, m, args, below, meth, c, A, D, Q, ro⟩ := C
  obtain ⟨hx, hb, hml, hown, hts, hK, hA, rfl⟩ := h
  intro H locs ls hP hD hS hro hl
  exact va_alen hx hb hK hP q0 0 ha rfl rfl hdg (kk H locs ls hP hD hS hro hl)
theorem g_max (h : OKx C cc nL Ts own RM cI cO) {idx : Nat} {x y : Int32} (hdg : decode cc pc = .ok (.invokestatic idx, 3)) (h1 : Cond.methodLink own idx Lib.Math.max.name ∈ Ts) (h2 : Cond.static Lib.Math.max.name ∈ Ts) (h3 : Cond.initialized "java/lang/Math" ∈ Ts) (h4 : Cond.code Lib.Math.max.name Lib.Math.max.code 2 (some .int) ∈ Ts) (h5 : 1 ≤ RM.frames) (h6 : (st.map fun v => v.category).sum + 13 ≤ RM.locals) (h7 : k ≤ RM.cells) (h8 : n ≤ RM.slots) (kk : GG C nL ws k n (pc + 3) lv (.int (if x < y then y else x) :: st)) : GG C nL ws k n pc lv (.int y :: .int x :: st) := by
  obtain ⟨p, l, e, R, s, m, args, below, meth, c, A, D, Q, ro⟩ := C
  obtain ⟨hx, hb, hml, hown, hts, hK, hA, rfl⟩ := h
  intro H locs ls hP hD hS hro hl
  exact va_mmax hx hb (hml.trans hl.1.symm) hown (hts _ h1) (hts _ h2) (hts _ h3) (hts _ h4) h5 h6 h7 h8 hdg (kk H locs ls hP hD hS hro hl)
theorem g_min (h : OKx C cc nL Ts own RM cI cO) {idx : Nat} {x y : Int32} (hdg : decode cc pc = .ok (.invokestatic idx, 3)) (h1 : Cond.methodLink own idx Lib.Math.min.name ∈ Ts) (h2 : Cond.static Lib.Math.min.name ∈ Ts) (h3 : Cond.initialized "java/lang/Math" ∈ Ts) (h4 : Cond.code Lib.Math.min.name Lib.Math.min.code 2 (some .int) ∈ Ts) (h5 : 1 ≤ RM.frames) (h6 : (st.map fun v => v.category).sum + 13 ≤ RM.locals) (h7 : k ≤ RM.cells) (h8 : n ≤ RM.slots) (kk : GG C nL ws k n (pc + 3) lv (.int (if y < x then y else x) :: st)) : GG C nL ws k n pc lv (.int y :: .int x :: st) := by
  obtain ⟨p, l, e, R, s, m, args, below, meth, c, A, D, Q, ro⟩ := C
  obtain ⟨hx, hb, hml, hown, hts, hK, hA, rfl⟩ := h
  intro H locs ls hP hD hS hro hl
  exact va_mmin hx hb (hml.trans hl.1.symm) hown (hts _ h1) (hts _ h2) (hts _ h3) (hts _ h4) h5 h6 h7 h8 hdg (kk H locs ls hP hD hS hro hl)
theorem g_copy (h : OKx C cc nL Ts own RM cI cO) (hw : ¬ gRo C) {idx a a0 N0 N1 : Nat} {f g : Nat → Int32} {sp dp z : Int32} (hdg : decode cc pc = .ok (.invokestatic idx, 3)) (h1 : Cond.methodLink own idx arraycopyName ∈ Ts) (h2 : Cond.native arraycopyName ∈ Ts) (h3 : Cond.static arraycopyName ∈ Ts) (h4 : Cond.initialized "java/lang/System" ∈ Ts) (q0 q1 : Nat) (ha0 : ws[q0]? = some (a0, .inl (cI, N0, .inl f))) (ha1 : ws[q1]? = some (a, .inl (cI, N1, .inl g))) (p1 : ¬ sp < 0) (p2 : ¬ dp < 0) (p3 : ¬ z < 0) (p4 : sp.toNatClampNeg + z.toNatClampNeg ≤ N0) (p5 : dp.toNatClampNeg + z.toNatClampNeg ≤ N1) (h5 : 1 ≤ RM.frames) (h6 : (st.map fun v => v.category).sum + (nativeFrameWords "java/lang/System" "arraycopy" 5 + 11) ≤ RM.locals) (hws : ws.set q1 (a, .inl (cI, N1, .inl (va_cpy f g sp.toNatClampNeg dp.toNatClampNeg z.toNatClampNeg))) = ws') (kk : GG C nL ws' k n (pc + 3) lv st) : GG C nL ws k n pc lv (.int z :: .int dp :: .ref a :: .int sp :: .ref a0 :: st) := by
  obtain ⟨p, l, e, R, s, m, args, below, meth, c, A, D, Q, ro⟩ := C
  obtain ⟨hx, hb, hml, hown, hts, hK, hA, rfl⟩ := h
  intro H locs ls hP hD hS hro hl
  subst hws
  exact va_copyi hx hb (hml.trans hl.1.symm) hown (hts _ h1) (hts _ h2) (hts _ h3) (hts _ h4) hK hP hD hS q0 q1 0 0 ha0 ha1 rfl rfl rfl p1 p2 p3 p4 p5 (fun i _ => rfl) h5 h6 hdg (fun H1 locs1 hP1 hD1 hS1 => kk H1 locs1 ls hP1 hD1 hS1 (fun r9 => absurd r9 hw) hl)
end GGR
/-! contracts: CR (reads only), CI (writes, answers an int), CV (writes, void) -/
def PcW (D : va_G) (cI cO : ClassId) (av : List Value) (w : va_W) (sz : Nat) : Array Value → State → Prop := va_Pc av (fun U => U.heap.size = sz ∧ va_P D vwCl w U.heap ∧ va_K D vwCl (gT cI cO) U ∧ va_D (fun _ => True) w)
theorem PcW_blind {D : va_G} {cI cO : ClassId} {av : List Value} {w : va_W} {sz : Nat} : FrameBlind (PcW D cI cO av w sz) := fun a U g mk q => by
  obtain ⟨q0, q1, qP, qK, qD⟩ := q
  exact ⟨q0, q1, qP, va_K.moved (u := U) (U := U.calling g mk a) (Vm.Alike.refl U.vm) qK, qD⟩
def Qro (post : Int32 → Prop) : Array Value → State → Outcome → State → Prop := fun _ st oc t => ∃ r : Int32, oc = .returned (some (.int r)) ∧ post r ∧ t.heap = st.heap
abbrev BwW (D : va_G) (cI cO : ClassId) {S : Type} (w2 : S → va_W) (A : Nat → Prop) : S → State → Prop := fun u t => va_P D vwCl (w2 u) t.heap ∧ va_K D vwCl (gT cI cO) t ∧ va_D A (w2 u)
def CR (l : Launch) (y : MethodName) (wds : List Cond) (fr lo : Nat) (D : va_G) (cI cO : ClassId) (av : List Value) (w : va_W) (post : Int32 → Prop) : Prop := ∀ sz : Nat, Met l y wds { frames := fr, cells := 0, slots := 0, locals := lo } (PcW D cI cO av w sz) (Qro post) 0 0 (fun _ => False)
def CI (l : Launch) (y : MethodName) (wds : List Cond) (fr lo mc ms : Nat) (D : va_G) (cI cO : ClassId) (av : List Value) (w : va_W) {S : Type} (post : Int32 → S → Prop) (w2 : S → va_W) : Prop := ∀ sz : Nat, Met l y wds { frames := fr, cells := mc, slots := ms, locals := lo } (PcW D cI cO av w sz) (va_Qi post (BwW D cI cO w2 (va_A w sz)) (va_A w sz)) mc ms (va_A w sz)
def CV (l : Launch) (y : MethodName) (wds : List Cond) (fr lo mc ms : Nat) (D : va_G) (cI cO : ClassId) (av : List Value) (w : va_W) {S : Type} (post : S → Prop) (w2 : S → va_W) : Prop := ∀ sz : Nat, Met l y wds { frames := fr, cells := mc, slots := ms, locals := lo } (PcW D cI cO av w sz) (va_Qv post (BwW D cI cO w2 (va_A w sz)) (va_A w sz)) mc ms (va_A w sz)

theorem CR.of {l : Launch} {y : MethodName} {wds wds9 : List Cond} {fr lo : Nat} {D : va_G} {cI cO : ClassId} {av : List Value} {w : va_W} {post : Int32 → Prop} {cc : ByteArray} {maxL : Nat} {rt : FieldType} (hy : plainName y.cls = true) (hwd : wds = Cond.code y cc maxL (some rt) :: wds9) (hlen : (lg_sl av).length ≤ maxL)
    (body : ∀ C : GX, gL C = l → gD C = D → OKx C cc maxL wds y.cls { frames := fr, cells := 0, slots := 0, locals := lo } cI cO → (∀ {pc : Nat} {lv : List (Nat × Value)} (v : Int32), decode cc pc = .ok (.ireturn, 1) → narrow rt (.int v) = .int v → post v → GG C maxL w 0 0 pc lv [.int v]) → GG C maxL w 0 0 0 (lv_args 0 av) []) : CR l y wds fr lo D cI cO av w post := by
  intro sz
  refine Met.ofW (cc := cc) (maxL := maxL) (ret := some rt) hy hwd ?_
  intro p e s m args below meth c s₁ B hml hv
  obtain ⟨rfl, rfl, hP, hK, hD0⟩ := hv
  have hD := hD0.self (sz := s.heap.size)
  have hl := lv_entry av (n := maxL) hlen
  rw [lg_entry_eq]
  have hlocks := B.notSynchronized
  have hr := B.returns
  have hx := B.exec
  have hb := B.bytes
  refine body (p, l, e, _, s, m, _, below, meth, c, va_A w s.heap.size, D, MQ below (Qro post) _ s 0 0 (fun _ => False), True) rfl rfl ⟨B.exec, B.bytes, hml, findClass_of_methodNamed B.named, atoms_spec (ws := wds) B.pre, hK, fun q h9 => Or.inr h9, rfl⟩ ?_ s.heap [] _ hP hD va_S.rf (fun _ => ⟨rfl, rfl⟩) hl
  intro pc lv v hdg hn hp H locs ls hP9 hD9 hS9 hro hl9
  obtain ⟨rfl, rfl⟩ := hro trivial
  exact W.zret hx hb hr hn (fun t ht hW => ⟨v, rfl, hp, ht⟩) (fun q hq => by cases hq) hdg
theorem CI.of {l : Launch} {y : MethodName} {wds wds9 : List Cond} {fr lo mc ms : Nat} {D : va_G} {cI cO : ClassId} {av : List Value} {w : va_W} {S : Type} {post : Int32 → S → Prop} {w2 : S → va_W} {cc : ByteArray} {maxL : Nat} {rt : FieldType} (hy : plainName y.cls = true) (hwd : wds = Cond.code y cc maxL (some rt) :: wds9) (hlen : (lg_sl av).length ≤ maxL)
    (body : ∀ C : GX, gL C = l → gD C = D → ¬ gRo C → OKx C cc maxL wds y.cls { frames := fr, cells := mc, slots := ms, locals := lo } cI cO → (∀ {pc k n : Nat} {ws : va_W} {lv : List (Nat × Value)} (v : Int32) (u : S), decode cc pc = .ok (.ireturn, 1) → narrow rt (.int v) = .int v → post v u → ws = w2 u → k ≤ mc → n ≤ ms → GG C maxL ws k n pc lv [.int v]) → GG C maxL w 0 0 0 (lv_args 0 av) []) : CI l y wds fr lo mc ms D cI cO av w post w2 := by
  intro sz
  refine Met.ofW (cc := cc) (maxL := maxL) (ret := some rt) hy hwd ?_
  intro p e s m args below meth c s₁ B hml hv
  obtain ⟨rfl, rfl, hP, hK, hD0⟩ := hv
  have hD := hD0.self (sz := s.heap.size)
  have hl := lv_entry av (n := maxL) hlen
  rw [lg_entry_eq]
  have hlocks := B.notSynchronized
  have hr := B.returns
  have hx := B.exec
  have hb := B.bytes
  refine body (p, l, e, _, s, m, _, below, meth, c, va_A w s.heap.size, D, MQ below (va_Qi post (BwW D cI cO w2 (va_A w s.heap.size)) (va_A w s.heap.size)) _ s mc ms (va_A w s.heap.size), False) rfl rfl (fun h9 => h9) ⟨B.exec, B.bytes, hml, findClass_of_methodNamed B.named, atoms_spec (ws := wds) B.pre, hK, fun q h9 => Or.inr h9, rfl⟩ ?_ s.heap [] _ hP hD va_S.rf (fun h9 => absurd h9 (fun h8 => h8)) hl
  intro pc k n ws lv v u hdg hn hp hws h1 h2 H locs ls hP9 hD9 hS9 hro hl9
  subst hws
  exact W.widen h1 h2 (W.zret hx hb hr hn (fun t ht hW => ⟨⟨v, u, rfl, hp, by rw [ht]; exact hP9, va_K.moved hW.alike hK, hD9⟩, hS9.F ht⟩) hS9.2.2 hdg)
theorem CV.of {l : Launch} {y : MethodName} {wds wds9 : List Cond} {fr lo mc ms : Nat} {D : va_G} {cI cO : ClassId} {av : List Value} {w : va_W} {S : Type} {post : S → Prop} {w2 : S → va_W} {cc : ByteArray} {maxL : Nat} (hy : plainName y.cls = true) (hwd : wds = Cond.code y cc maxL none :: wds9) (hlen : (lg_sl av).length ≤ maxL)
    (body : ∀ C : GX, gL C = l → gD C = D → ¬ gRo C → OKx C cc maxL wds y.cls { frames := fr, cells := mc, slots := ms, locals := lo } cI cO → (∀ {pc k n : Nat} {ws : va_W} {lv : List (Nat × Value)} (u : S), decode cc pc = .ok (.return_, 1) → post u → ws = w2 u → k ≤ mc → n ≤ ms → GG C maxL ws k n pc lv []) → GG C maxL w 0 0 0 (lv_args 0 av) []) : CV l y wds fr lo mc ms D cI cO av w post w2 := by
  intro sz
  refine Met.ofW (cc := cc) (maxL := maxL) (ret := none) hy hwd ?_
  intro p e s m args below meth c s₁ B hml hv
  obtain ⟨rfl, rfl, hP, hK, hD0⟩ := hv
  have hD := hD0.self (sz := s.heap.size)
  have hl := lv_entry av (n := maxL) hlen
  rw [lg_entry_eq]
  have hlocks := B.notSynchronized
  have hr := B.returns
  have hx := B.exec
  have hb := B.bytes
  refine body (p, l, e, _, s, m, _, below, meth, c, va_A w s.heap.size, D, MQ below (va_Qv post (BwW D cI cO w2 (va_A w s.heap.size)) (va_A w s.heap.size)) _ s mc ms (va_A w s.heap.size), False) rfl rfl (fun h9 => h9) ⟨B.exec, B.bytes, hml, findClass_of_methodNamed B.named, atoms_spec (ws := wds) B.pre, hK, fun q h9 => Or.inr h9, rfl⟩ ?_ s.heap [] _ hP hD va_S.rf (fun h9 => absurd h9 (fun h8 => h8)) hl
  intro pc k n ws lv u hdg hp hws h1 h2 H locs ls hP9 hD9 hS9 hro hl9
  subst hws
  exact W.widen h1 h2 (W.vret hx hb hr (fun t ht hW => ⟨⟨u, rfl, hp, by rw [ht]; exact hP9, va_K.moved hW.alike hK, hD9⟩, hS9.F ht⟩) hS9.2.2 hdg)

section GGC
variable {C : GX} {nL : Nat} {ws ws' wc : va_W} {k n pc : Nat} {lv lv' : List (Nat × Value)} {st st0 As : List Value} {cc bytes : ByteArray} {Ts wds wds9 : List Cond} {own Cn : String} {RM : Room} {cI cO : ClassId} {y : MethodName} {fr lo mc ms idx maxL b ci : Nat} {ret : Option FieldType} {fs : List Value} {T : u_T} {N : Nat}
theorem gp_sub {D : va_G} {H : Heap} (hP : va_P D vwCl ws H) (is : List Nat) (his : is.map (fun i => ws[i]?) = wc.map some) : va_P D vwCl wc H := by
  intro j q hj
  have h1 : (is.map (fun i => ws[i]?))[j]? = some (some q) := by rw [his, List.getElem?_map, hj]; rfl
  rw [List.getElem?_map] at h1
  cases hi : is[j]? with
  | none => rw [hi] at h1; cases h1
  | some i => rw [hi] at h1; exact hP i q (Option.some.inj h1)
/-- a method's name has a plain class and so many parameters -/
def nPar (y : MethodName) (Cn : String) (j : Nat) : Bool := decide (y.cls = Cn) && decide (y.cls ≠ "java/lang/invoke/MethodHandle") && decide (y.cls ≠ "java/lang/invoke/VarHandle") && decide ((parseMethodDescriptor y.desc).map (fun d => d.parameters.length) = some j)
theorem nPar_ok {y : MethodName} {Cn : String} {j : Nat} (h : nPar y Cn j = true) : y.cls = Cn ∧ y.cls ≠ "java/lang/invoke/MethodHandle" ∧ y.cls ≠ "java/lang/invoke/VarHandle" ∧ (parseMethodDescriptor y.desc).map (fun d => d.parameters.length) = some j := by
  simp only [nPar, Bool.and_eq_true, decide_eq_true_eq] at h
  exact ⟨h.1.1.1, h.1.1.2, h.1.2, h.2⟩

theorem g_callR (h : OKx C cc nL Ts own RM cI cO) {post : Int32 → Prop} (hdg : decode cc pc = .ok (.invokevirtual idx, 3)) (hM : CR (gL C) y wds fr lo (gD C) cI cO (.ref b :: As) wc post) (is : List Nat) (his : is.map (fun i => ws[i]?) = wc.map some) (hnd : va_nd is = true) (hg : GoodIn Ts (wsV own idx Cn y wds)) (hwd : wds = Cond.code y bytes maxL ret :: wds9) {q0 : Nat} (hq : wc[q0]? = some (b, .inr (ci, fs))) (hc : vwCl[ci]? = some (Cn, T, N)) (hd : nPar y Cn As.length = true) (hR : fr + 1 ≤ RM.frames ∧ 8 + (maxL + 11) + lo ≤ RM.locals) (hst : st0 = As.reverse ++ .ref b :: st) (hcat : (st.map fun v => v.category).sum ≤ 8) (hkn : k + 0 ≤ RM.cells ∧ n + 0 ≤ RM.slots) (kk : ∀ r, post r → GG C nL ws k n (pc + 3) lv (.int r :: st)) : GG C nL ws k n pc lv st0 := by
  obtain ⟨p, l, e, R, s, m, args, below, meth, c, A, D, Q, ro⟩ := C
  obtain ⟨hx, hb, hml, hown, hts, hK, hA, rfl⟩ := h
  intro H locs ls hP hD hS hro hl
  subst hst
  replace hM : CR l y wds fr lo D cI cO (.ref b :: As) wc post := hM
  have hPc : va_P D vwCl wc H := gp_sub hP is his
  have hDc := hD.sub is hnd his
  have run : va_Run p l e R s m args below meth c H locs k n 0 0 (F0 m pc ls (As.reverse ++ .ref b :: st)) st (Qro post (Value.ref b :: As).toArray) (fun _ => False) := va_runV (As := As) (rest := st) ⟨hx, hb, hml, hown, hts⟩ (hM H.size) (cwV _ hts hg hwd rfl rfl (nPar_ok hd) hR) ⟨PcW_blind, va_recv hK hPc hc hq, fun U hU hW => ⟨rfl, by rw [hU], by rw [hU]; exact hPc, va_K.moved hW.alike hK, hDc.weaken (fun _ _ _ _ => trivial)⟩⟩ rfl rfl hl.1 rfl (lv_room hcat) hdg hkn
  intro T9 hT9 X9
  obtain ⟨v, st₀, t, T', L, h0, X', hL, e1, e2, ⟨r, hv, hp, hh⟩, stp⟩ := run T9 hT9 X9
  cases hv
  have hLn : L = [] := by
    cases L with
    | nil => rfl
    | cons q L => exact absurd (hL q List.mem_cons_self) (fun h9 => h9)
  subst hLn
  rw [List.append_nil] at X'
  have hH1 : T'.heap = H := by rw [e1, hh, h0]
  obtain ⟨t2, a1, b1⟩ := kk r hp H locs ls hP hD hS hro hl T' hH1 X'
  exact ⟨t2, stp t2 a1, b1⟩
theorem g_scallR (h : OKx C cc nL Ts own RM cI cO) {post : Int32 → Prop} (hdg : decode cc pc = .ok (.invokestatic idx, 3)) (hM : CR (gL C) y wds fr lo (gD C) cI cO As wc post) (is : List Nat) (his : is.map (fun i => ws[i]?) = wc.map some) (hnd : va_nd is = true) (hg : GoodIn Ts (wsS own idx y wds)) (hwd : wds = Cond.code y bytes maxL ret :: wds9) (hd : nPar y own As.length = true) (hR : fr + 1 ≤ RM.frames ∧ 8 + (maxL + 11) + lo ≤ RM.locals) (hst : st0 = As.reverse ++ st) (hcat : (st.map fun v => v.category).sum ≤ 8) (hkn : k + 0 ≤ RM.cells ∧ n + 0 ≤ RM.slots) (kk : ∀ r, post r → GG C nL ws k n (pc + 3) lv (.int r :: st)) : GG C nL ws k n pc lv st0 := by
  obtain ⟨p, l, e, R, s, m, args, below, meth, c, A, D, Q, ro⟩ := C
  obtain ⟨hx, hb, hml, hown, hts, hK, hA, rfl⟩ := h
  intro H locs ls hP hD hS hro hl
  subst hst
  replace hM : CR l y wds fr lo D cI cO As wc post := hM
  have hPc : va_P D vwCl wc H := gp_sub hP is his
  have hDc := hD.sub is hnd his
  have run : va_Run p l e R s m args below meth c H locs k n 0 0 (F0 m pc ls (As.reverse ++ st)) st (Qro post (As).toArray) (fun _ => False) := va_runS (As := As) (rest := st) ⟨hx, hb, hml, hown, hts⟩ (hM H.size) (cwS _ hts hg hwd rfl rfl (nPar_ok hd) hR) ⟨PcW_blind, fun U hU hW => ⟨rfl, by rw [hU], by rw [hU]; exact hPc, va_K.moved hW.alike hK, hDc.weaken (fun _ _ _ _ => trivial)⟩⟩ rfl rfl hl.1 rfl (lv_room hcat) hdg hkn
  intro T9 hT9 X9
  obtain ⟨v, st₀, t, T', L, h0, X', hL, e1, e2, ⟨r, hv, hp, hh⟩, stp⟩ := run T9 hT9 X9
  cases hv
  have hLn : L = [] := by
    cases L with
    | nil => rfl
    | cons q L => exact absurd (hL q List.mem_cons_self) (fun h9 => h9)
  subst hLn
  rw [List.append_nil] at X'
  have hH1 : T'.heap = H := by rw [e1, hh, h0]
  obtain ⟨t2, a1, b1⟩ := kk r hp H locs ls hP hD hS hro hl T' hH1 X'
  exact ⟨t2, stp t2 a1, b1⟩
theorem g_callI (h : OKx C cc nL Ts own RM cI cO) {S : Type} {post : Int32 → S → Prop} {w2 : S → va_W} (hdg : decode cc pc = .ok (.invokevirtual idx, 3)) (hM : CI (gL C) y wds fr lo mc ms (gD C) cI cO (.ref b :: As) ws post w2) (hw : ¬ gRo C) (hg : GoodIn Ts (wsV own idx Cn y wds)) (hwd : wds = Cond.code y bytes maxL ret :: wds9) {q0 : Nat} (hq : ws[q0]? = some (b, .inr (ci, fs))) (hc : vwCl[ci]? = some (Cn, T, N)) (hd : nPar y Cn As.length = true) (hR : fr + 1 ≤ RM.frames ∧ 8 + (maxL + 11) + lo ≤ RM.locals) (hst : st0 = As.reverse ++ .ref b :: st) (hcat : (st.map fun v => v.category).sum ≤ 8) (hkn : k + mc ≤ RM.cells ∧ n + ms ≤ RM.slots) (kk : ∀ r u, post r u → GG C nL (w2 u) (k + mc) (n + ms) (pc + 3) lv (.int r :: st)) : GG C nL ws k n pc lv st0 := by
  obtain ⟨p, l, e, R, s, m, args, below, meth, c, A, D, Q, ro⟩ := C
  obtain ⟨hx, hb, hml, hown, hts, hK, hA, rfl⟩ := h
  intro H locs ls hP hD hS hro hl
  subst hst
  replace hM : CI l y wds fr lo mc ms D cI cO (.ref b :: As) ws post w2 := hM
  have hPc := hP
  have hDc := hD
  have hF : ∀ q, va_A ws H.size q → A q := fun q h9 => by
    rcases h9 with ⟨k9, e9, h9⟩ | h9
    · exact hD.2 k9 (q, e9) h9
    · exact hA q (Nat.le_trans hS.1 h9)
  refine va_calli (va_runV (As := As) (rest := st) ⟨hx, hb, hml, hown, hts⟩ (hM H.size) (cwV _ hts hg hwd rfl rfl (nPar_ok hd) hR) ⟨PcW_blind, va_recv hK hPc hc hq, fun U hU hW => ⟨rfl, by rw [hU], by rw [hU]; exact hPc, va_K.moved hW.alike hK, hDc.weaken (fun _ _ _ _ => trivial)⟩⟩ rfl rfl hl.1 rfl (lv_room hcat) hdg hkn) hS (fun q _ h9 => hF q h9) hF (fun r u t H1 locs1 ht hvm hw9 hB hz1 hk1 hS1 => ?_)
  obtain ⟨hP1, hK1, hD1⟩ := hB
  rw [ht] at hP1
  exact kk r u hw9 H1 locs1 ls hP1 (hD1.weaken (fun _ q9 _ h9 => hF q9.1 h9)) hS1 (fun r9 => absurd r9 hw) hl
theorem g_callV (h : OKx C cc nL Ts own RM cI cO) {S : Type} {post : S → Prop} {w2 : S → va_W} (hdg : decode cc pc = .ok (.invokevirtual idx, 3)) (hM : CV (gL C) y wds fr lo mc ms (gD C) cI cO (.ref b :: As) ws post w2) (hw : ¬ gRo C) (hg : GoodIn Ts (wsV own idx Cn y wds)) (hwd : wds = Cond.code y bytes maxL ret :: wds9) {q0 : Nat} (hq : ws[q0]? = some (b, .inr (ci, fs))) (hc : vwCl[ci]? = some (Cn, T, N)) (hd : nPar y Cn As.length = true) (hR : fr + 1 ≤ RM.frames ∧ 8 + (maxL + 11) + lo ≤ RM.locals) (hst : st0 = As.reverse ++ .ref b :: st) (hcat : (st.map fun v => v.category).sum ≤ 8) (hkn : k + mc ≤ RM.cells ∧ n + ms ≤ RM.slots) (kk : ∀ u, post u → GG C nL (w2 u) (k + mc) (n + ms) (pc + 3) lv st) : GG C nL ws k n pc lv st0 := by
  obtain ⟨p, l, e, R, s, m, args, below, meth, c, A, D, Q, ro⟩ := C
  obtain ⟨hx, hb, hml, hown, hts, hK, hA, rfl⟩ := h
  intro H locs ls hP hD hS hro hl
  subst hst
  replace hM : CV l y wds fr lo mc ms D cI cO (.ref b :: As) ws post w2 := hM
  have hPc := hP
  have hDc := hD
  have hF : ∀ q, va_A ws H.size q → A q := fun q h9 => by
    rcases h9 with ⟨k9, e9, h9⟩ | h9
    · exact hD.2 k9 (q, e9) h9
    · exact hA q (Nat.le_trans hS.1 h9)
  refine va_callv (va_runV (As := As) (rest := st) ⟨hx, hb, hml, hown, hts⟩ (hM H.size) (cwV _ hts hg hwd rfl rfl (nPar_ok hd) hR) ⟨PcW_blind, va_recv hK hPc hc hq, fun U hU hW => ⟨rfl, by rw [hU], by rw [hU]; exact hPc, va_K.moved hW.alike hK, hDc.weaken (fun _ _ _ _ => trivial)⟩⟩ rfl rfl hl.1 rfl (lv_room hcat) hdg hkn) hS (fun q _ h9 => hF q h9) hF (fun u t H1 locs1 ht hvm hw9 hB hz1 hk1 hS1 => ?_)
  obtain ⟨hP1, hK1, hD1⟩ := hB
  rw [ht] at hP1
  exact kk u hw9 H1 locs1 ls hP1 (hD1.weaken (fun _ q9 _ h9 => hF q9.1 h9)) hS1 (fun r9 => absurd r9 hw) hl
/-- a call on a part of the world (the places is), the rest (the places isR) stays; perm lays the new world -/
theorem g_callVp (h : OKx C cc nL Ts own RM cI cO) {S : Type} {post : S → Prop} {w2 wz : S → va_W} {wr : va_W} (hdg : decode cc pc = .ok (.invokevirtual idx, 3)) (hM : CV (gL C) y wds fr lo mc ms (gD C) cI cO (.ref b :: As) wc post w2) (hw : ¬ gRo C) (is isR perm : List Nat) (his : is.map (fun i => ws[i]?) = wc.map some) (hnd : va_nd is = true) (hisR : isR.map (fun i => ws[i]?) = wr.map some) (hndR : va_nd isR = true) (hdis : ∀ i ∈ isR, i ∉ is) (hnp : va_nd perm = true) (hperm : ∀ u, perm.map (fun i => (wr ++ w2 u)[i]?) = (wz u).map some) (hg : GoodIn Ts (wsV own idx Cn y wds)) (hwd : wds = Cond.code y bytes maxL ret :: wds9) {q0 : Nat} (hq : wc[q0]? = some (b, .inr (ci, fs))) (hc : vwCl[ci]? = some (Cn, T, N)) (hd : nPar y Cn As.length = true) (hR : fr + 1 ≤ RM.frames ∧ 8 + (maxL + 11) + lo ≤ RM.locals) (hst : st0 = As.reverse ++ .ref b :: st) (hcat : (st.map fun v => v.category).sum ≤ 8) (hkn : k + mc ≤ RM.cells ∧ n + ms ≤ RM.slots) (kk : ∀ u, post u → GG C nL (wz u) (k + mc) (n + ms) (pc + 3) lv st) : GG C nL ws k n pc lv st0 := by
  obtain ⟨p, l, e, R, s, m, args, below, meth, c, A, D, Q, ro⟩ := C
  obtain ⟨hx, hb, hml, hown, hts, hK, hA, rfl⟩ := h
  intro H locs ls hP hD hS hro hl
  subst hst
  replace hM : CV l y wds fr lo mc ms D cI cO (.ref b :: As) wc post w2 := hM
  have hPc : va_P D vwCl wc H := gp_sub hP is his
  have hDc := hD.sub is hnd his
  have hFc := va_free (wc := wc) hD hS hA is his
  refine va_callv (va_runV (As := As) (rest := st) ⟨hx, hb, hml, hown, hts⟩ (hM H.size) (cwV _ hts hg hwd rfl rfl (nPar_ok hd) hR) ⟨PcW_blind, va_recv hK hPc hc hq, fun U hU hW => ⟨rfl, by rw [hU], by rw [hU]; exact hPc, va_K.moved hW.alike hK, hDc.weaken (fun _ _ _ _ => trivial)⟩⟩ rfl rfl hl.1 rfl (lv_room hcat) hdg hkn) hS (fun q _ h9 => hFc q h9) hFc (fun u t H1 locs1 ht hvm hw9 hB hz1 hk1 hS1 => ?_)
  obtain ⟨hP1, hK1, hD1⟩ := hB
  rw [ht] at hP1
  obtain ⟨hP2, hD2⟩ := va_join (wr := wr) (w1 := w2 u) hP hD is isR his hisR hndR hdis hk1 hFc hP1 hD1
  exact kk u hw9 H1 locs1 ls (gp_sub hP2 perm (hperm u)) (hD2.sub perm hnp (hperm u)) hS1 (fun r9 => absurd r9 hw) hl
end GGC
