/-! the law from its entry; the rows around whole_start began as the kit's skeleton -/
theorem sL_0 : Cond.classLink RL 7 RX3 ∈ wsL_law := by decide +kernel
theorem sL_1 : Cond.instantiable RX3 9 ∈ wsL_law := by decide +kernel
theorem sL_2 : Cond.initialized RX3 ∈ wsL_law := by decide +kernel
theorem sL_3 : Cond.classLink RL 10 RX4 ∈ wsL_law := by decide +kernel
theorem sL_4 : Cond.instantiable RX4 30 ∈ wsL_law := by decide +kernel
theorem sL_5 : Cond.initialized RX4 ∈ wsL_law := by decide +kernel
theorem sL_6 : Cond.methodLink RL 9 yX3_init ∈ wsL_law := by decide +kernel
theorem sL_7 : Cond.instanceMethod yX3_init ∈ wsL_law := by decide +kernel
theorem sL_8 : Cond.initialized yX3_init.cls ∈ wsL_law := by decide +kernel
theorem sL_9 : Cond.methodLink RL 12 yX4_init ∈ wsL_law := by decide +kernel
theorem sL_10 : Cond.instanceMethod yX4_init ∈ wsL_law := by decide +kernel
theorem sL_11 : Cond.initialized yX4_init.cls ∈ wsL_law := by decide +kernel
theorem sL_12 : Cond.instantiable RX0 9 ∈ wsL_law := by decide +kernel
theorem sL_13 : Cond.instantiable RX1 2 ∈ wsL_law := by decide +kernel
theorem sL_14 : Cond.instantiable RX2 4 ∈ wsL_law := by decide +kernel
theorem sL_15 : Cond.arrayClass .int ∈ wsL_law := by decide +kernel
theorem sT_0 : Cond.arrayOver (.array .int) ∈ lw_tbl := List.mem_append_right _ (List.mem_of_getElem? (i := 68) (by decide +kernel))
theorem sT_1 : Cond.methodLinkNest RX3 9 yX0_init "SpareShelves" ∈ lw_tbl := List.mem_append_right _ (List.mem_of_getElem? (i := 19) (by decide +kernel))
theorem sT_2 : Cond.methodLinkNest RX3 40 yX1_init "SpareShelves" ∈ lw_tbl := List.mem_append_right _ (List.mem_of_getElem? (i := 89) (by decide +kernel))
theorem rc0 {u : UX} : RC d0 u := ⟨⟨by decide, by decide, fun i e h => by simp [d0] at h⟩, ⟨by decide, by decide, fun i e h => by simp [d0] at h⟩, by decide, by decide⟩
theorem rmm0 {v : MX} : RM d0 v := ⟨fun i e h => by simp [d0] at h, fun i e h => by simp [d0] at h⟩
theorem cp0 : cp d0 = 1280 := rfl
theorem cq0 : Cq d0 := ⟨by decide, by decide⟩
/-- the classes' numbers at the law's entry -/
theorem law_K {s : State} {args : Array Value} (hts : ∀ w ∈ lw_tbl, w.before args s = true) : ∃ (D : va_G) (cI cO : ClassId), va_K D vwCl (gT cI cO) s := by
  have htw : ∀ w ∈ wsL_law, w.before args s = true := fun w h => hts w (wsL_law_in w h)
  obtain ⟨c0, i0, k0⟩ := u_known (C := RX0) (T := TX0) (N := 9) (n := 9) htw inlX0 (htw _ sL_12)
  obtain ⟨c1, i1, k1⟩ := u_known (C := RX1) (T := TX1) (N := 2) (n := 2) htw inlX1 (htw _ sL_13)
  obtain ⟨c2, i2, k2⟩ := u_known (C := RX2) (T := TX2) (N := 4) (n := 4) htw inlX2 (htw _ sL_14)
  obtain ⟨c3, i3, k3⟩ := u_known (C := RX3) (T := TX3) (N := 9) (n := 9) htw inlX3 (htw _ sL_1)
  obtain ⟨c4, i4, k4⟩ := u_known (C := RX4) (T := TX4) (N := 30) (n := 30) htw inlX4 (htw _ sL_4)
  obtain ⟨cI, kI, compI, hI1, hI2, hI3⟩ := Cond.arrayClass_spec (htw _ sL_15)
  obtain ⟨comp, cO, kO, hO1, hO2, hO3, hO4⟩ := Cond.arrayOver_specA (hts _ sT_0)
  refine ⟨(fun k => if k = 0 then c0 else if k = 1 then c1 else if k = 2 then c2 else if k = 3 then c3 else c4, fun k => if k = 0 then i0 else if k = 1 then i1 else if k = 2 then i2 else if k = 3 then i3 else i4), cI, cO, ?_, ?_⟩
  · intro k q hq
    match k, hq with
    | 0, hq => cases hq; exact k0
    | 1, hq => cases hq; exact k1
    | 2, hq => cases hq; exact k2
    | 3, hq => cases hq; exact k3
    | 4, hq => cases hq; exact k4
    | k + 5, hq => simp [vwCl] at hq
  · intro k q hq
    match k, hq with
    | 0, hq => cases hq; exact ⟨fun n z => ⟨fun k h => (by cases h), kI, hI2, compI, hI3⟩, hI1⟩
    | 1, hq => cases hq; exact ⟨fun n z => ⟨fun k h => (by cases h), kO, hO2, comp, hO3⟩, hO4⟩
    | k + 2, hq => simp [gT] at hq
set_option maxHeartbeats 4000000 in
set_option maxRecDepth 100000 in
/-- from the entry, over any context that stands there -/
theorem law_entry (C : GX) (cI cO : ClassId) (h : OKx C cL_law 4 wsL_law RL room_1 cI cO) (hw : ¬ gRo C) (hEs : EXs (gSt C)) (b L : Nat) (xs : Nat → Int32) (hX : SX C b L xs) (hL : L ≤ 2560) (hend : ∀ {k n : Nat} {ws : va_W} {lv : List (Nat × Value)}, k ≤ 600000 → n ≤ 7302250 → GG C 4 ws k n 677 lv [.int 1]) : GG C 4 [] 0 0 0 [(0, .ref b)] [] := by
  refine g_new h hw (pc := 0) (fs := [.null, .null, .null, .null, .null, .null, .null, .null, .int 0]) dL_law_0 inlX3 tyX3 tyX3_ok (ci := 3) rfl sL_0 sL_1 sL_2 (by decide +kernel) (Nat.le_of_ble_eq_true rfl) (Nat.le_of_ble_eq_true rfl) ?_
  intro q1
  refine g_eq (ws' := [(q1, .inr (3, [.null, .null, .null, .null, .null, .null, .null, .null, .int 0]))]) rfl ?_
  refine g_dup h (pc := 3) dL_law_3 rfl ?_
  refine g_callK h EXs_ok hEs (pc := 4) (As := []) (st := [.ref q1]) (wr := []) (wz := fun a : Nat → Nat => cw cI cO a (a 43, a 45, fun _ => 0, fun _ => 0, fun _ => 0) Z0 d0) dL_law_4 (c_init (gL C) (gD C) cI cO q1) hw [0] [] [0, 1, 2, 3, 4, 5, 6, 7, 8, 9, 10, 11, 12, 13, 14, 15, 16, 17, 18, 19, 20, 21, 22, 23, 24, 25, 26, 27, 28, 29, 30, 31, 32, 33, 34, 35, 36, 37, 38, 39, 40, 41, 42, 43, 44, 45] rfl (by decide) rfl (by decide) (by decide) (by decide) (fun u => rfl) ggL_law_X3_init rfl sL_6 sL_7 sL_8 rfl (show nPar yX3_init yX3_init.cls 0 = true by decide +kernel) (by exact ⟨Nat.le_of_ble_eq_true rfl, Nat.le_of_ble_eq_true rfl⟩) rfl (by exact Nat.le_of_ble_eq_true rfl) (by exact ⟨Nat.le_of_ble_eq_true rfl, Nat.le_of_ble_eq_true rfl⟩) ?_
  intro a ha
  subst ha
  refine g_astore_n h (pc := 7) dL_law_7 (by decide) (lv' := [(0, .ref b), (1, .ref (a 0))]) rfl ?_
  refine g_new h hw (pc := 8) (fs := [.int 0, .int 0, .null, .null, .null, .int 0, .null, .null, .null, .null, .null, .null, .int 0, .null, .null, .null, .null, .null, .int 0, .null, .null, .null, .null, .null, .int 0, .null, .null, .null, .null, .null]) dL_law_8 inlX4 tyX4 tyX4_ok (ci := 4) rfl sL_3 sL_4 sL_5 (by decide +kernel) (Nat.le_of_ble_eq_true rfl) (Nat.le_of_ble_eq_true rfl) ?_
  intro q2
  refine g_dup h (pc := 11) dL_law_11 rfl ?_
  refine g_callK h EXs_ok hEs (pc := 12) (As := []) (st := [.ref q2]) (wr := cw cI cO a (a 43, a 45, fun _ => 0, fun _ => 0, fun _ => 0) Z0 d0) (wz := fun hm : Nat → Nat => cw cI cO a (a 43, a 45, fun _ => 0, fun _ => 0, fun _ => 0) Z0 d0 ++ mwd cI hm (fun _ _ => 0) Z0 d0) dL_law_12 (c_minit (gL C) (gD C) cI cO EXs q2) hw [46] [0, 1, 2, 3, 4, 5, 6, 7, 8, 9, 10, 11, 12, 13, 14, 15, 16, 17, 18, 19, 20, 21, 22, 23, 24, 25, 26, 27, 28, 29, 30, 31, 32, 33, 34, 35, 36, 37, 38, 39, 40, 41, 42, 43, 44, 45] [0, 1, 2, 3, 4, 5, 6, 7, 8, 9, 10, 11, 12, 13, 14, 15, 16, 17, 18, 19, 20, 21, 22, 23, 24, 25, 26, 27, 28, 29, 30, 31, 32, 33, 34, 35, 36, 37, 38, 39, 40, 41, 42, 43, 44, 45, 46, 47, 48, 49, 50, 51, 52, 53, 54, 55, 56, 57, 58, 59, 60, 61, 62, 63, 64, 65, 66, 67, 68, 69, 70] rfl (by decide) rfl (by decide) (by decide) (by decide) (fun u => rfl) ggL_law_X4_init rfl sL_9 sL_10 sL_11 rfl (show nPar yX4_init yX4_init.cls 0 = true by decide +kernel) (by exact ⟨Nat.le_of_ble_eq_true rfl, Nat.le_of_ble_eq_true rfl⟩) rfl (by exact Nat.le_of_ble_eq_true rfl) (by exact ⟨Nat.le_of_ble_eq_true rfl, Nat.le_of_ble_eq_true rfl⟩) ?_
  intro hm hhm
  subst hhm
  refine g_astore_n h (pc := 15) dL_law_15 (by decide) (lv' := [(0, .ref b), (1, .ref (a 0)), (2, .ref (hm 0))]) rfl ?_
  refine g_iconst h (pc := 16) (v := nI 0) dL_law_16 (by decide) ?_
  refine g_istore_n h (pc := 17) dL_law_17 (by decide) (lv' := [(0, .ref b), (1, .ref (a 0)), (2, .ref (hm 0)), (3, .int (nI 0))]) rfl ?_
  refine g_wid (k' := 71 + cp d0) (n' := 70000 + 2 * cp d0) (Nat.le_of_ble_eq_true rfl) (Nat.le_of_ble_eq_true rfl) ?_
  exact law_loop C cI cO h hw b L xs hX hL a hm hend 600 0 0 Z0 d0 _ _ (by decide) (by omega) (by decide) ⟨1, 0, 0, Iv_0⟩ cq0 rc0 rmm0
/-! THE CLAIM OUT OF ONE WALK OF THE LAW'S BODY. Your part is whole_start (and what it stands on); all else here is the same for every law, but numbers. -/
def R_law : String := "SpareShelvesLaw"
def lw_P (b : Addr) (xs : List Int32) (args : Array Value) (s : State) : Prop := args = #[.ref b] ∧ s.IntsAt b xs ∧ xs.length ≤ 2560 ∧ (Jvm.Cond.and given_1 narrow_1).before args s = true
def lw_Q (_ : Array Value) (s : State) (o : Outcome) (t : State) : Prop := o = .returned (some (.int 1)) ∧ Framed s o t [] 600000 7302250
def lw_Z (below : List Frame) (a : Array Value) (s : State) : State → Prop := fun t => ∃ o, t.status = .running ∧ Ended t below o ∧ lw_Q a s o t
/-- the law's own end, with 1 on the stack, nothing written that was there before, its room as the claim has it -/
theorem lw_ret {p : Program} {l : Launch} {e : Env} {s : State} {m : MethodId} {below : List Frame} {meth : Method} {c : Code} {b : Nat} (hx : p.tables.exec = Jvm.exec) (hb : c.code = code) (hr : meth.sig.returnType = ret) (hlocks : meth.locks = false) {pc : Nat} {H : Heap} {ls : Array Slot} (hdg : decode code pc = .ok (.ireturn, 1)) : W p l e room_1 s m #[Value.ref b] below meth c H [] 600000 7302250 (lw_Z below #[Value.ref b] s) (F0 m pc ls [.int 1]) := by
  intro T hT X
  obtain ⟨fs, hret, hrun, hended, hW, hframe⟩ := X.leave (v := some (.int 1)) (hlocks := hlocks) (fun h => by rw [hr] at h; cases h)
  have hmeth' : T.vm.method? m = some meth := X.method'
  refine ⟨T.setFrames fs, ?_, .returned (some (.int 1)), hrun, hended, rfl, ⟨_, rfl⟩, hW, hframe⟩
  jvm_step X.here [X.here.top, hx, hb, hdg, hmeth', hr, ret, narrow_b1]
  (try refine ⟨rfl, ?_⟩); (try refine ⟨rfl, ?_⟩)
  first | (intro acts; rw [hret _ acts rfl rfl rfl]) | rw [hret _ _ rfl rfl rfl]
  exact Steps.refl _
/-- what holds at the law's entry: the machine, the code, the tables' words (any of lw_tbl by 'hts w (by decide +kernel)'), the script of L ints xs at the cell b, what the Statement gives of the start (any of its parts by flat_of_before) -/
def lw_At (p : Program) (s : State) (m : MethodId) (meth : Method) (c : Code) (b L : Nat) (xs : Nat → Int32) : Prop :=
  p.tables.exec = Jvm.exec ∧ c.code = code ∧ meth.sig.returnType = ret ∧ c.maxLocals = 4 ∧ s.vm.findClass R_law = some m.cls ∧ (∀ w ∈ lw_tbl, w.before #[Value.ref b] s = true) ∧ va_X b L xs s s.heap ∧ b < s.heap.size ∧ meth.locks = false ∧ (Jvm.Cond.and given_1 narrow_1).before #[Value.ref b] s = true
set_option maxHeartbeats 4000000 in
set_option maxRecDepth 100000 in
theorem whole_start {p : Program} {e : Env} {s : State} {m : MethodId} {below : List Frame} {meth : Method} {c : Code} (l : Launch) {b L : Nat} {xs : Nat → Int32} (hL : L ≤ 2560) (C0 : lw_At p s m meth c b L xs) : W p l e room_1 s m #[Value.ref b] below meth c s.heap [] 0 0 (lw_Z below #[Value.ref b] s) (entryFrame m ([Value.ref b] : List Value).toArray 4) := by
  obtain ⟨hx, hb, hr, hml, hown, hts, hX, hbl, hlocks, hgv⟩ := id C0
  obtain ⟨D, cI, cO, hK⟩ := law_K hts
  have htw : ∀ w ∈ wsL_law, w.before #[Value.ref b] s = true := fun w h => hts w (wsL_law_in w h)
  have hEs : EXs s := ⟨hts _ sT_0, va_Nw.of rfl (hts _ sT_1), va_Nw.of rfl (hts _ sT_2)⟩
  have hl := lv_entry ([.ref b]) (n := 4) (Nat.le_of_ble_eq_true rfl)
  rw [lg_entry_eq]
  refine law_entry (p, l, e, room_1, s, m, #[Value.ref b], below, meth, c, fun q => s.heap.size ≤ q, D, lw_Z below #[Value.ref b] s, False) cI cO ⟨hx, hb, hml, hown, htw, hK, fun _ h9 => h9, rfl⟩ (fun h9 => h9) hEs b L xs ⟨hX, hbl, Nat.not_le.mpr hbl⟩ hL ?_ s.heap [] _ (fun k q h9 => by simp at h9) ⟨fun i j p9 q9 h9 => by simp at h9, fun k q9 h9 => by simp at h9⟩ va_S.rf (fun h9 => h9.elim) hl
  intro k n ws lv h1 h2 H locs ls hP hD hS hro hl9
  exact W.widen h1 h2 (va_forget (fun q h9 => hS.2.2 q h9) (lw_ret hx hb hr hlocks dL_law_677))
