/-! new int arrays; a contract that answers a new array -/
section GGN
variable {C : GX} {nL : Nat} {ws ws' wc : va_W} {k n pc : Nat} {lv lv' : List (Nat × Value)} {st st0 As : List Value} {cc bytes : ByteArray} {Ts wds wds9 : List Cond} {own Cn : String} {RM : Room} {cI cO : ClassId} {y : MethodName} {fr lo mc ms idx maxL b ci : Nat} {ret : Option FieldType} {fs : List Value} {T : u_T} {N : Nat}
theorem g_newa (h : OKx C cc nL Ts own RM cI cO) (hw : ¬ gRo C) {z : Int32} {N : Nat} (hdg : decode cc pc = .ok (.newarray .int, 2)) (harr : Cond.arrayClass .int ∈ Ts) (hz : z = nI N) (hN : N ≤ 100000000) (hk9 : k + 1 ≤ RM.cells) (hn9 : n + N ≤ RM.slots) (kk : ∀ q : Nat, GG C nL (ws ++ [(q, .inl (cI, N, .inl (fun _ => 0)))]) (k + 1) (n + N) (pc + 2) lv (.ref q :: st)) : GG C nL ws k n pc lv (.int z :: st) := by
  obtain ⟨p, l, e, R, s, m, args, below, meth, c, A, D, Q, ro⟩ := C
  obtain ⟨hx, hb, hml, hown, hts, hK, hA, rfl⟩ := h
  intro H locs ls hP hD hS hro hl
  subst hz
  refine va_newa (ty := .int) (N' := N) (a0 := (N, .inl (fun _ => 0))) hx hb (atype := .int) (hts _ harr) rfl hK hP hD hS hA (fun cA => rfl) (nI_pos (by omega)) (nI_clamp (by omega)) (by show N * 4 ≤ _; omega) hk9 hn9 hdg (fun q cA H1 hK1 hP1 hD1 hS1 => ?_)
  have e1 : s.vm.findClass ("[" ++ FieldType.int.toString) = some cA := (hK1.2 2 _ rfl).2
  have e2 : s.vm.findClass ("[" ++ FieldType.int.toString) = some cI := (hK.2 0 _ rfl).2
  have e3 : cA = cI := Option.some.inj (e1.symm.trans e2)
  subst e3
  exact kk q H1 locs ls hP1 hD1 hS1 (fun r9 => absurd r9 hw) hl
theorem g_lvp (ks : List Nat) (e9 : lv_pick lv ks = lv') (kk : GG C nL ws k n pc lv' st) : GG C nL ws k n pc lv st := by
  obtain ⟨p, l, e, R, s, m, args, below, meth, c, A, D, Q, ro⟩ := C
  intro H locs ls hP hD hS hro hl
  exact kk H locs ls hP hD hS hro (lv_sub hl ks e9)
/-- a static method that answers a cell: the new world w2 u q -/
def CA (l : Launch) (y : MethodName) (wds : List Cond) (fr lo mc ms : Nat) (D : va_G) (cI cO : ClassId) (av : List Value) (w : va_W) {S : Type} (post : S → Prop) (w2 : S → Nat → va_W) : Prop := ∀ sz : Nat, Met l y wds { frames := fr, cells := mc, slots := ms, locals := lo } (PcW D cI cO av w sz) (va_Qr post (fun u q t => va_P D vwCl (w2 u q) t.heap ∧ va_K D vwCl (gT cI cO) t ∧ va_D (va_A w sz) (w2 u q)) (va_A w sz)) mc ms (va_A w sz)
theorem CA.of {l : Launch} {y : MethodName} {wds wds9 : List Cond} {fr lo mc ms : Nat} {D : va_G} {cI cO : ClassId} {av : List Value} {w : va_W} {S : Type} {post : S → Prop} {w2 : S → Nat → va_W} {cc : ByteArray} {maxL : Nat} (hy : plainName y.cls = true) (hwd : wds = Cond.code y cc maxL (some (.array .int)) :: wds9) (hlen : (lg_sl av).length ≤ maxL)
    (body : ∀ C : GX, gL C = l → gD C = D → ¬ gRo C → OKx C cc maxL wds y.cls { frames := fr, cells := mc, slots := ms, locals := lo } cI cO → (∀ {pc k n : Nat} {ws : va_W} {lv : List (Nat × Value)} (u : S) (q : Nat), decode cc pc = .ok (.areturn, 1) → post u → ws = w2 u q → k ≤ mc → n ≤ ms → GG C maxL ws k n pc lv [.ref q]) → GG C maxL w 0 0 0 (lv_args 0 av) []) : CA l y wds fr lo mc ms D cI cO av w post w2 := by
  intro sz
  refine Met.ofW (cc := cc) (maxL := maxL) (ret := some (.array .int)) hy hwd ?_
  intro p e s m args below meth c s₁ B hml hv
  obtain ⟨rfl, rfl, hP, hK, hD0⟩ := hv
  have hD := hD0.self (sz := s.heap.size)
  have hl := lv_entry av (n := maxL) hlen
  rw [lg_entry_eq]
  have hlocks := B.notSynchronized
  have hr := B.returns
  have hx := B.exec
  have hb := B.bytes
  refine body (p, l, e, _, s, m, _, below, meth, c, va_A w s.heap.size, D, MQ below (va_Qr post (fun u q t => va_P D vwCl (w2 u q) t.heap ∧ va_K D vwCl (gT cI cO) t ∧ va_D (va_A w s.heap.size) (w2 u q)) (va_A w s.heap.size)) _ s mc ms (va_A w s.heap.size), False) rfl rfl (fun h9 => h9) ⟨B.exec, B.bytes, hml, findClass_of_methodNamed B.named, atoms_spec (ws := wds) B.pre, hK, fun q h9 => Or.inr h9, rfl⟩ ?_ s.heap [] _ hP hD va_S.rf (fun h9 => absurd h9 (fun h8 => h8)) hl
  intro pc k n ws lv u q hdg hp hws h1 h2 H locs ls hP9 hD9 hS9 hro hl9
  subst hws
  exact W.widen h1 h2 (W.aret hx hb hr (Or.inr ⟨_, rfl⟩) (Or.inr ⟨q, rfl⟩) (fun t ht hW => ⟨⟨u, q, rfl, hp, by rw [ht]; exact hP9, va_K.moved hW.alike hK, hD9⟩, hS9.F ht⟩) hS9.2.2 hdg)
theorem g_scallA (h : OKx C cc nL Ts own RM cI cO) {S : Type} {post : S → Prop} {w2 : S → Nat → va_W} {wz : S → Nat → va_W} {wr : va_W} (hdg : decode cc pc = .ok (.invokestatic idx, 3)) (hM : CA (gL C) y wds fr lo mc ms (gD C) cI cO As wc post w2) (hw : ¬ gRo C) (is isR perm : List Nat) (his : is.map (fun i => ws[i]?) = wc.map some) (hnd : va_nd is = true) (hisR : isR.map (fun i => ws[i]?) = wr.map some) (hndR : va_nd isR = true) (hdis : ∀ i ∈ isR, i ∉ is) (hnp : va_nd perm = true) (hperm : ∀ u q, perm.map (fun i => (wr ++ w2 u q)[i]?) = (wz u q).map some) (hg : GoodIn Ts wds) (h1 : Cond.methodLink own idx y ∈ Ts) (h2 : Cond.static y ∈ Ts) (h3 : Cond.initialized y.cls ∈ Ts) (hwd : wds = Cond.code y bytes maxL ret :: wds9) (hd : nPar y y.cls As.length = true) (hR : fr + 1 ≤ RM.frames ∧ 8 + (maxL + 11) + lo ≤ RM.locals) (hst : st0 = As.reverse ++ st) (hcat : (st.map fun v => v.category).sum ≤ 8) (hkn : k + mc ≤ RM.cells ∧ n + ms ≤ RM.slots) (kk : ∀ u q, post u → GG C nL (wz u q) (k + mc) (n + ms) (pc + 3) lv (.ref q :: st)) : GG C nL ws k n pc lv st0 := by
  obtain ⟨p, l, e, R, s, m, args, below, meth, c, A, D, Q, ro⟩ := C
  obtain ⟨hx, hb, hml, hown, hts, hK, hA, rfl⟩ := h
  intro H locs ls hP hD hS hro hl
  subst hst
  replace hM : CA l y wds fr lo mc ms D cI cO As wc post w2 := hM
  have hPc : va_P D vwCl wc H := gp_sub hP is his
  have hDc := hD.sub is hnd his
  have hFc := va_free (wc := wc) hD hS hA is his
  refine va_callr (va_runS (As := As) (rest := st) ⟨hx, hb, hml, hown, hts⟩ (hM H.size) ⟨callB_of As.length hts hg hwd rfl rfl (hts _ h3) (hts _ h1) (nPar_ok hd).2 hR, hts _ h2⟩ ⟨PcW_blind, fun U hU hW => ⟨rfl, by rw [hU], by rw [hU]; exact hPc, va_K.moved hW.alike hK, hDc.weaken (fun _ _ _ _ => trivial)⟩⟩ rfl rfl hl.1 rfl (lv_room hcat) hdg hkn) hS (fun q _ h9 => hFc q h9) hFc ?_
  intro u q t H1 locs1 ht hvm hw9 hB hz1 hk1 hS1
  obtain ⟨hP1, hK1, hD1⟩ := hB
  rw [ht] at hP1
  obtain ⟨hP2, hD2⟩ := va_join (wr := wr) (w1 := w2 u q) hP hD is isR his hisR hndR hdis hk1 hFc hP1 hD1
  exact kk u q hw9 H1 locs1 ls (gp_sub hP2 perm (hperm u q)) (hD2.sub perm hnp (hperm u q)) hS1 (fun r9 => absurd r9 hw) hl
end GGN
