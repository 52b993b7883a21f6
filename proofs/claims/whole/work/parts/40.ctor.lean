/-! making objects: rules for constructors -/
def gSt (C : GX) : State := C.2.2.2.2.1
def gIni (C : GX) : Prop := C.2.2.2.2.2.2.2.2.1.name = "<init>"
/-- a fact of a state that the tables keep -/
def EXok (EX : State → Prop) : Prop := (∀ s U : State, s.WarmedH U.vm → EX s → EX U) ∧ ∀ (U : State) (g : JFrame) (mk : MethodId) (a : Array Value), EX U → EX (U.calling g mk a)
def PcK (D : va_G) (cI cO : ClassId) (EX : State → Prop) (av : List Value) (w : va_W) (sz : Nat) : Array Value → State → Prop := va_Pc av (fun U => U.heap.size = sz ∧ va_P D vwCl w U.heap ∧ va_K D vwCl (gT cI cO) U ∧ va_D (fun _ => True) w ∧ EX U)
theorem PcK_blind {D : va_G} {cI cO : ClassId} {EX : State → Prop} (hE : EXok EX) {av : List Value} {w : va_W} {sz : Nat} : FrameBlind (PcK D cI cO EX av w sz) := fun a U g mk q => by
  obtain ⟨q0, q1, qP, qK, qD, qE⟩ := q
  exact ⟨q0, q1, qP, va_K.moved (u := U) (U := U.calling g mk a) (Vm.Alike.refl U.vm) qK, qD, hE.2 U g mk a qE⟩
def CK (l : Launch) (y : MethodName) (wds : List Cond) (fr lo mc ms : Nat) (D : va_G) (cI cO : ClassId) (EX : State → Prop) (av : List Value) (w : va_W) {S : Type} (post : S → Prop) (w2 : S → va_W) : Prop := ∀ sz : Nat, Met l y wds { frames := fr, cells := mc, slots := ms, locals := lo } (PcK D cI cO EX av w sz) (va_Qv post (BwW D cI cO w2 (va_A w sz)) (va_A w sz)) mc ms (va_A w sz)
theorem CK.of {l : Launch} {y : MethodName} {wds wds9 : List Cond} {fr lo mc ms : Nat} {D : va_G} {cI cO : ClassId} {EX : State → Prop} {av : List Value} {w : va_W} {S : Type} {post : S → Prop} {w2 : S → va_W} {cc : ByteArray} {maxL : Nat} (hy : plainName y.cls = true) (hyn : y.name = "<init>") (hwd : wds = Cond.code y cc maxL none :: wds9) (hlen : (lg_sl av).length ≤ maxL)
    (body : ∀ C : GX, gL C = l → gD C = D → ¬ gRo C → gIni C → EX (gSt C) → OKx C cc maxL wds y.cls { frames := fr, cells := mc, slots := ms, locals := lo } cI cO → (∀ {pc k n : Nat} {ws : va_W} {lv : List (Nat × Value)} (u : S), decode cc pc = .ok (.return_, 1) → post u → ws = w2 u → k ≤ mc → n ≤ ms → GG C maxL ws k n pc lv []) → GG C maxL w 0 0 0 (lv_args 0 av) []) : CK l y wds fr lo mc ms D cI cO EX av w post w2 := by
  intro sz
  refine Met.ofW (cc := cc) (maxL := maxL) (ret := none) hy hwd ?_
  intro p e s m args below meth c s₁ B hml hv
  obtain ⟨rfl, rfl, hP, hK, hD0, hE⟩ := hv
  have hD := hD0.self (sz := s.heap.size)
  have hl := lv_entry av (n := maxL) hlen
  rw [lg_entry_eq]
  have hlocks := B.notSynchronized
  have hr := B.returns
  have hx := B.exec
  have hb := B.bytes
  have hin : meth.name = "<init>" := ((name_of_methodNamed B.named B.method).1).trans hyn
  refine body (p, l, e, _, s, m, _, below, meth, c, va_A w s.heap.size, D, MQ below (va_Qv post (BwW D cI cO w2 (va_A w s.heap.size)) (va_A w s.heap.size)) _ s mc ms (va_A w s.heap.size), False) rfl rfl (fun h9 => h9) hin hE ⟨B.exec, B.bytes, hml, findClass_of_methodNamed B.named, atoms_spec (ws := wds) B.pre, hK, fun q h9 => Or.inr h9, rfl⟩ ?_ s.heap [] _ hP hD va_S.rf (fun h9 => absurd h9 (fun h8 => h8)) hl
  intro pc k n ws lv u hdg hp hws h1 h2 H locs ls hP9 hD9 hS9 hro hl9
  subst hws
  exact W.widen h1 h2 (W.vret hx hb hr (fun t ht hW => ⟨⟨u, rfl, hp, by rw [ht]; exact hP9, va_K.moved hW.alike hK, hD9⟩, hS9.F ht⟩) hS9.2.2 hdg)
section GGK
variable {C : GX} {nL : Nat} {ws ws' wc : va_W} {k n pc : Nat} {lv lv' : List (Nat × Value)} {st st0 As : List Value} {cc bytes : ByteArray} {Ts wds wds9 : List Cond} {own Cn : String} {RM : Room} {cI cO : ClassId} {y : MethodName} {fr lo mc ms idx maxL b ci a : Nat} {fs : List Value} {T : u_T} {N : Nat}
theorem g_objI (h : OKx C cc nL Ts own RM cI cO) (hdg : decode cc pc = .ok (.invokespecial idx, 3)) (h1 : Cond.methodLink own idx Lib.objectInit ∈ Ts) (h2 : Cond.instanceMethod Lib.objectInit ∈ Ts) (h3 : Cond.code Lib.objectInit ⟨#[0xb1]⟩ 1 none ∈ Ts) (h5 : 1 ≤ RM.frames) (h6 : (st.map fun v => v.category).sum + 12 ≤ RM.locals) (kk : GG C nL ws k n (pc + 3) lv st) : GG C nL ws k n pc lv (.ref a :: st) := by
  obtain ⟨p, l, e, R, s, m, args, below, meth, c, A, D, Q, ro⟩ := C
  obtain ⟨hx, hb, hml, hown, hts, hK, hA, rfl⟩ := h
  intro H locs ls hP hD hS hro hl
  exact W.objInit hx hb hown (hts _ h1) (hts _ h2) (hts _ h3) rfl (by rw [hml]; exact hl.1) rfl hdg h5 (by show 2 * 0 + _ + 12 ≤ _; omega) (kk H locs ls hP hD hS hro hl)
theorem g_putF (h : OKx C cc nL Ts own RM cI cO) (hw : ¬ gRo C) (hi : gIni C) {v : Value} {ty : FieldType} (hdg : decode cc pc = .ok (.putfield idx, 3)) (hin : ∀ w ∈ u_ws Cn T N, w ∈ Ts) (ty0 : Nat → FieldType) (hty : ∀ k, k < N → parseFieldDescriptor (T k).2.2.1 = some (ty0 k)) (hnm : ∀ a, a < N → ∀ b, b < N → a ≠ b → (T a).2.1 ≠ (T b).2.1) (q0 : Nat) (he : ws[q0]? = some (a, .inr (ci, fs))) (hc : vwCl[ci]? = some (Cn, T, N)) (kf : Nat) (hk : kf < N) (hlink : Cond.fieldLink own idx (T kf).1 (T kf).2.1 (T kf).2.2.1 ∈ Ts) (hfin : (T kf).2.2.2 = true) (hdecl : (T kf).1 = own) (hd : parseFieldDescriptor (T kf).2.2.1 = some ty) (hn : narrow ty v = v) (hfit : fits ty v = true) (hl9 : kf < fs.length) (hws : ws.set q0 (a, .inr (ci, fs.set kf v)) = ws') (kk : GG C nL ws' k n (pc + 3) lv st) : GG C nL ws k n pc lv (v :: .ref a :: st) := by
  obtain ⟨p, l, e, R, s, m, args, below, meth, c, A, D, Q, ro⟩ := C
  obtain ⟨hx, hb, hml, hown, hts, hK, hA, rfl⟩ := h
  intro H locs ls hP hD hS hro hl
  subst hws
  exact va_putF hx hb hts hin ty0 hty hnm hown hK hP hD hS q0 he hc kf hk (hts _ hlink) (fun _ h9 => h9) hfin hi hdecl hd hn hfit hl9 hdg (fun H1 locs1 hP1 hD1 hS1 => kk H1 locs1 ls hP1 hD1 hS1 (fun r9 => absurd r9 hw) hl)
theorem g_new (h : OKx C cc nL Ts own RM cI cO) (hw : ¬ gRo C) (hdg : decode cc pc = .ok (.new idx, 3)) (hin : ∀ w ∈ u_ws Cn T N, w ∈ Ts) (ty0 : Nat → FieldType) (hty : ∀ k, k < N → parseFieldDescriptor (T k).2.2.1 = some (ty0 k)) (hc : vwCl[ci]? = some (Cn, T, N)) (h1 : Cond.classLink own idx Cn ∈ Ts) (h2 : Cond.instantiable Cn N ∈ Ts) (h3 : Cond.initialized Cn ∈ Ts) (hfs : ∀ j, j < N → defaultValue (ty0 j) = vp_V fs j) (hk9 : k + 1 ≤ RM.cells) (hn9 : n + N ≤ RM.slots) (kk : ∀ q : Nat, GG C nL (ws ++ [(q, .inr (ci, fs))]) (k + 1) (n + N) (pc + 3) lv (.ref q :: st)) : GG C nL ws k n pc lv st := by
  obtain ⟨p, l, e, R, s, m, args, below, meth, c, A, D, Q, ro⟩ := C
  obtain ⟨hx, hb, hml, hown, hts, hK, hA, rfl⟩ := h
  intro H locs ls hP hD hS hro hl
  exact va_new hx hb hts hin ty0 hty hown (hts _ h1) (hts _ h2) (hts _ h3) hK hP hD hS hA hc hfs hk9 hn9 hdg (fun q H1 hP1 hD1 hS1 => kk q H1 locs ls hP1 hD1 hS1 (fun r9 => absurd r9 hw) hl)
theorem g_callK (h : OKx C cc nL Ts own RM cI cO) {EX : State → Prop} (hE : EXok EX) (hEs : EX (gSt C)) {S : Type} {post : S → Prop} {w2 wz : S → va_W} {wr : va_W} (hdg : decode cc pc = .ok (.invokespecial idx, 3)) (hM : CK (gL C) y wds fr lo mc ms (gD C) cI cO EX (.ref b :: As) wc post w2) (hw : ¬ gRo C) (is isR perm : List Nat) (his : is.map (fun i => ws[i]?) = wc.map some) (hnd : va_nd is = true) (hisR : isR.map (fun i => ws[i]?) = wr.map some) (hndR : va_nd isR = true) (hdis : ∀ i ∈ isR, i ∉ is) (hnp : va_nd perm = true) (hperm : ∀ u, perm.map (fun i => (wr ++ w2 u)[i]?) = (wz u).map some) (hg : GoodIn Ts wds) (hwd : wds = Cond.code y bytes maxL none :: wds9) (h1 : Cond.methodLink own idx y ∈ Ts) (h2 : Cond.instanceMethod y ∈ Ts) (h3 : Cond.initialized y.cls ∈ Ts) (hyn : y.name = "<init>") (hd : nPar y y.cls As.length = true) (hR : fr + 1 ≤ RM.frames ∧ 8 + (maxL + 11) + lo ≤ RM.locals) (hst : st0 = As.reverse ++ .ref b :: st) (hcat : (st.map fun v => v.category).sum ≤ 8) (hkn : k + mc ≤ RM.cells ∧ n + ms ≤ RM.slots) (kk : ∀ u, post u → GG C nL (wz u) (k + mc) (n + ms) (pc + 3) lv st) : GG C nL ws k n pc lv st0 := by
  obtain ⟨p, l, e, R, s, m, args, below, meth, c, A, D, Q, ro⟩ := C
  obtain ⟨hx, hb, hml, hown, hts, hK, hA, rfl⟩ := h
  intro H locs ls hP hD hS hro hl
  subst hst
  replace hM : CK l y wds fr lo mc ms D cI cO EX (.ref b :: As) wc post w2 := hM
  replace hEs : EX s := hEs
  have hPc : va_P D vwCl wc H := gp_sub hP is his
  have hDc := hD.sub is hnd his
  have hFc := va_free (wc := wc) hD hS hA is his
  refine va_callv (va_runI (As := As) (rest := st) ⟨hx, hb, hml, hown, hts⟩ (hM H.size) ⟨callB_of As.length hts hg hwd rfl rfl (hts _ h3) (hts _ h1) (nPar_ok hd).2 hR, hyn, hts _ h2⟩ ⟨PcK_blind hE, fun U hU hW => ⟨rfl, by rw [hU], by rw [hU]; exact hPc, va_K.moved hW.alike hK, hDc.weaken (fun _ _ _ _ => trivial), hE.1 s U hW hEs⟩⟩ rfl rfl hl.1 rfl (lv_room hcat) hdg hkn) hS (fun q _ h9 => hFc q h9) hFc (fun u t H1 locs1 ht hvm hw9 hB hz1 hk1 hS1 => ?_)
  obtain ⟨hP1, hK1, hD1⟩ := hB
  rw [ht] at hP1
  obtain ⟨hP2, hD2⟩ := va_join (wr := wr) (w1 := w2 u) hP hD is isR his hisR hndR hdis hk1 hFc hP1 hD1
  exact kk u hw9 H1 locs1 ls (gp_sub hP2 perm (hperm u)) (hD2.sub perm hnp (hperm u)) hS1 (fun r9 => absurd r9 hw) hl
theorem g_callKN (h : OKx C cc nL Ts own RM cI cO) {EX : State → Prop} (hE : EXok EX) (hEs : EX (gSt C)) {host : String} (hNs : va_Nw (.methodLinkNest own idx y host) (gSt C)) {S : Type} {post : S → Prop} {w2 wz : S → va_W} {wr : va_W} (hdg : decode cc pc = .ok (.invokespecial idx, 3)) (hM : CK (gL C) y wds fr lo mc ms (gD C) cI cO EX (.ref b :: As) wc post w2) (hw : ¬ gRo C) (is isR perm : List Nat) (his : is.map (fun i => ws[i]?) = wc.map some) (hnd : va_nd is = true) (hisR : isR.map (fun i => ws[i]?) = wr.map some) (hndR : va_nd isR = true) (hdis : ∀ i ∈ isR, i ∉ is) (hnp : va_nd perm = true) (hperm : ∀ u, perm.map (fun i => (wr ++ w2 u)[i]?) = (wz u).map some) (hg : GoodIn Ts wds) (hwd : wds = Cond.code y bytes maxL none :: wds9) (h2 : Cond.instanceMethod y ∈ Ts) (h3 : Cond.initialized y.cls ∈ Ts) (hyn : y.name = "<init>") (hd : nPar y y.cls As.length = true) (hR : fr + 1 ≤ RM.frames ∧ 8 + (maxL + 11) + lo ≤ RM.locals) (hst : st0 = As.reverse ++ .ref b :: st) (hcat : (st.map fun v => v.category).sum ≤ 8) (hkn : k + mc ≤ RM.cells ∧ n + ms ≤ RM.slots) (kk : ∀ u, post u → GG C nL (wz u) (k + mc) (n + ms) (pc + 3) lv st) : GG C nL ws k n pc lv st0 := by
  obtain ⟨p, l, e, R, s, m, args, below, meth, c, A, D, Q, ro⟩ := C
  obtain ⟨hx, hb, hml, hown, hts, hK, hA, rfl⟩ := h
  intro H locs ls hP hD hS hro hl
  subst hst
  replace hM : CK l y wds fr lo mc ms D cI cO EX (.ref b :: As) wc post w2 := hM
  replace hEs : EX s := hEs
  have hPc : va_P D vwCl wc H := gp_sub hP is his
  have hDc := hD.sub is hnd his
  have hFc := va_free (wc := wc) hD hS hA is his
  refine va_callv (va_runIN (host := host) (As := As) (rest := st) ⟨hx, hb, hml, hown, hts⟩ (hM H.size) ⟨va_cnB As.length hts hg hwd rfl rfl hNs (hts _ h3) (nPar_ok hd).2 hR, hyn, hts _ h2⟩ ⟨PcK_blind hE, fun U hU hW => ⟨rfl, by rw [hU], by rw [hU]; exact hPc, va_K.moved hW.alike hK, hDc.weaken (fun _ _ _ _ => trivial), hE.1 s U hW hEs⟩⟩ rfl rfl hl.1 rfl (lv_room hcat) hdg hkn) hS (fun q _ h9 => hFc q h9) hFc (fun u t H1 locs1 ht hvm hw9 hB hz1 hk1 hS1 => ?_)
  obtain ⟨hP1, hK1, hD1⟩ := hB
  rw [ht] at hP1
  obtain ⟨hP2, hD2⟩ := va_join (wr := wr) (w1 := w2 u) hP hD is isR his hisR hndR hdis hk1 hFc hP1 hD1
  exact kk u hw9 H1 locs1 ls (gp_sub hP2 perm (hperm u)) (hD2.sub perm hnp (hperm u)) hS1 (fun r9 => absurd r9 hw) hl
theorem ofn_cong (cA : ClassId) {N : Nat} {f g : Nat → Value} (h : ∀ j, j < N → f j = g j) : arrV cA N f = arrV cA N g := by
  unfold arrV
  congr 1
  congr 1
  funext j
  exact h j.val j.isLt
theorem g_mna (h : OKx C cc nL Ts own RM cI cO) (hw : ¬ gRo C) (hAO : va_AOA .int (gSt C)) (hdg : decode cc pc = .ok (.multianewarray idx 2, 4)) (h1 : Cond.classLink own idx "[[I" ∈ Ts) (h2 : Cond.arrayClass .int ∈ Ts) (hk9 : k + 9 ≤ RM.cells) (hn9 : n + 72 ≤ RM.slots) (kk : ∀ (q : Nat) (r : Nat → Nat), GG C nL ((ws ++ [(q, .inl (cO, 8, .inr (.inr (.inr (.inr (fun i => some (r i)))))))]) ++ [(r 0, .inl (cI, 8, .inl (fun _ => 0))), (r 1, .inl (cI, 8, .inl (fun _ => 0))), (r 2, .inl (cI, 8, .inl (fun _ => 0))), (r 3, .inl (cI, 8, .inl (fun _ => 0))), (r 4, .inl (cI, 8, .inl (fun _ => 0))), (r 5, .inl (cI, 8, .inl (fun _ => 0))), (r 6, .inl (cI, 8, .inl (fun _ => 0))), (r 7, .inl (cI, 8, .inl (fun _ => 0)))]) (k + 1 + 8) (n + 8 + 8 * 8) (pc + 4) lv (.ref q :: st)) : GG C nL ws k n pc lv (.int 8 :: .int 8 :: st) := by
  obtain ⟨p, l, e, R, s, m, args, below, meth, c, A, D, Q, ro⟩ := C
  obtain ⟨hx, hb, hml, hown, hts, hK, hA, rfl⟩ := h
  intro H locs ls hP hD hS hro hl
  have hcy : s.vm.findClass (FieldType.array .int).toString = some cI := (hK.2 0 _ rfl).2
  have hP0 : va_P D vwCl (ws ++ va_pl [] (fun _ => .inl (cI, 0, .inl (fun _ => 0)))) H := by rw [show va_pl [] (fun _ => (.inl (cI, 0, .inl (fun _ => 0)) : va_E)) = [] from rfl, List.append_nil]; exact hP
  have hD0 : va_D A (ws ++ va_pl [] (fun _ => .inl (cI, 0, .inl (fun _ => 0)))) := by rw [show va_pl [] (fun _ => (.inl (cI, 0, .inl (fun _ => 0)) : va_E)) = [] from rfl, List.append_nil]; exact hD
  refine va_mna (ty := .int) (cy := cI) (z := (8, .inl (fun _ => 0))) (N' := 8) (K' := 8) hx hb hown (hts _ h1) hAO (hts _ h2) hcy hK hP0 hD0 hS hA (by decide) (by decide) (by decide) (by decide) (by decide) (by decide) (by decide) (by decide) (by decide) hk9 hn9 (fun c => by rw [vp_cell_i]; exact (arrV_new c 8 (.int 0)).trans rfl) hdg (fun q r cA H1 hinj hnot hK1 hP1 hD1 hS1 => ?_)
  have e1 : s.vm.findClass ("[" ++ (FieldType.array .int).toString) = some cA := (hK1.2 2 _ rfl).2
  have e2 : s.vm.findClass ("[" ++ (FieldType.array .int).toString) = some cO := (hK.2 1 _ rfl).2
  have e3 : cO = cA := Option.some.inj (e2.symm.trans e1)
  subst e3
  have hrow : va_pl ([] ++ (List.range 8).map r) (vr_up (fun _ => .inl (cI, 0, .inl (fun _ => 0))) ((List.range 8).map r) (.inl (cI, (8, .inl (fun _ => 0))))) = [(r 0, .inl (cI, 8, .inl (fun _ => 0))), (r 1, .inl (cI, 8, .inl (fun _ => 0))), (r 2, .inl (cI, 8, .inl (fun _ => 0))), (r 3, .inl (cI, 8, .inl (fun _ => 0))), (r 4, .inl (cI, 8, .inl (fun _ => 0))), (r 5, .inl (cI, 8, .inl (fun _ => 0))), (r 6, .inl (cI, 8, .inl (fun _ => 0))), (r 7, .inl (cI, 8, .inl (fun _ => 0)))] := by
    have h5 : va_pl ([] ++ (List.range 8).map r) (vr_up (fun _ => .inl (cI, 0, .inl (fun _ => 0))) ((List.range 8).map r) (.inl (cI, (8, .inl (fun _ => 0))))) = ((List.range 8).map r).map (fun a => (a, .inl (cI, (8, .inl (fun _ => 0))))) := by
      unfold va_pl
      rw [List.nil_append]
      exact List.map_congr_left (fun a ha => by rw [vr_up_in ha])
    rw [h5]
    rfl
  rw [hrow] at hP1 hD1
  refine kk q r H1 locs ls ?_ ?_ hS1 (fun r9 => absurd r9 hw) hl
  · intro j x hj
    by_cases hq : j = ws.length
    · subst hq
      have hx1 : x = (q, .inl (cO, 8, .inr (.inr (.inr (.inr (fun i => some (r i))))))) := by
        rw [List.getElem?_append_left (by simp), List.getElem?_append_right (Nat.le_refl _), Nat.sub_self] at hj
        exact (Option.some.inj hj).symm
      subst hx1
      have h6 := hP1 ws.length (q, .inl (cO, 8, .inr (.inr (.inr (.inr (fun i => if i < 8 then some (r i) else none)))))) (by rw [List.getElem?_append_left (by simp), List.getElem?_append_right (Nat.le_refl _), Nat.sub_self]; rfl)
      have h7 : H1[q]? = some (vp_cell cO (8, .inr (.inr (.inr (.inr (fun i => if i < 8 then some (r i) else none)))))) := h6
      show H1[q]? = some (vp_cell cO (8, .inr (.inr (.inr (.inr (fun i => some (r i)))))))
      rw [h7, vp_cell_q, vp_cell_q]
      exact congrArg some (ofn_cong cO (fun j hj => by rw [if_pos hj]))
    · refine hP1 j x ?_
      rw [← hj]
      by_cases hl : j < ws.length
      · rw [List.getElem?_append_left (by simp; omega), List.getElem?_append_left hl, List.getElem?_append_left (by simp; omega), List.getElem?_append_left hl]
      · rw [List.getElem?_append_right (by simp; omega), List.getElem?_append_right (by simp; omega)]
        simp
  · exact ⟨fun i j x y hi hj hxy => by
      have key : ∀ (i : Nat) (x : Nat × va_E), ((ws ++ [(q, .inl (cO, 8, .inr (.inr (.inr (.inr (fun i => some (r i)))))))]) ++ [(r 0, .inl (cI, 8, .inl (fun _ => 0))), (r 1, .inl (cI, 8, .inl (fun _ => 0))), (r 2, .inl (cI, 8, .inl (fun _ => 0))), (r 3, .inl (cI, 8, .inl (fun _ => 0))), (r 4, .inl (cI, 8, .inl (fun _ => 0))), (r 5, .inl (cI, 8, .inl (fun _ => 0))), (r 6, .inl (cI, 8, .inl (fun _ => 0))), (r 7, .inl (cI, 8, .inl (fun _ => 0)))])[i]? = some x → ∃ x2, ((ws ++ [(q, .inl (cO, 8, .inr (.inr (.inr (.inr (fun i => if i < 8 then some (r i) else none))))))]) ++ [(r 0, .inl (cI, 8, .inl (fun _ => 0))), (r 1, .inl (cI, 8, .inl (fun _ => 0))), (r 2, .inl (cI, 8, .inl (fun _ => 0))), (r 3, .inl (cI, 8, .inl (fun _ => 0))), (r 4, .inl (cI, 8, .inl (fun _ => 0))), (r 5, .inl (cI, 8, .inl (fun _ => 0))), (r 6, .inl (cI, 8, .inl (fun _ => 0))), (r 7, .inl (cI, 8, .inl (fun _ => 0)))])[i]? = some x2 ∧ x2.1 = x.1 := by
        intro i x hi
        by_cases hq : i = ws.length
        · subst hq
          refine ⟨(q, .inl (cO, 8, .inr (.inr (.inr (.inr (fun i => if i < 8 then some (r i) else none)))))), by rw [List.getElem?_append_left (by simp), List.getElem?_append_right (Nat.le_refl _), Nat.sub_self]; rfl, ?_⟩
          rw [List.getElem?_append_left (by simp), List.getElem?_append_right (Nat.le_refl _), Nat.sub_self] at hi
          rw [← Option.some.inj hi]
        · refine ⟨x, ?_, rfl⟩
          rw [← hi]
          by_cases hl : i < ws.length
          · rw [List.getElem?_append_left (by simp; omega), List.getElem?_append_left hl, List.getElem?_append_left (by simp; omega), List.getElem?_append_left hl]
          · rw [List.getElem?_append_right (by simp; omega), List.getElem?_append_right (by simp; omega)]
            simp
      obtain ⟨x2, x3, x4⟩ := key i x hi
      obtain ⟨y2, y3, y4⟩ := key j y hj
      exact hD1.1 i j x2 y2 x3 y3 (by rw [x4, y4]; exact hxy), fun i x hi => by
      by_cases hq : i = ws.length
      · subst hq
        have h6 := hD1.2 ws.length (q, .inl (cO, 8, .inr (.inr (.inr (.inr (fun i => if i < 8 then some (r i) else none)))))) (by rw [List.getElem?_append_left (by simp), List.getElem?_append_right (Nat.le_refl _), Nat.sub_self]; rfl)
        rw [List.getElem?_append_left (by simp), List.getElem?_append_right (Nat.le_refl _), Nat.sub_self] at hi
        rw [← Option.some.inj hi]
        exact h6
      · refine hD1.2 i x ?_
        rw [← hi]
        by_cases hl : i < ws.length
        · rw [List.getElem?_append_left (by simp; omega), List.getElem?_append_left hl, List.getElem?_append_left (by simp; omega), List.getElem?_append_left hl]
        · rw [List.getElem?_append_right (by simp; omega), List.getElem?_append_right (by simp; omega)]
          simp⟩
end GGK
