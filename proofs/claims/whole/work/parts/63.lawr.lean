/-! rules for the law: its script, its calls on a part of the joint world -/
section GGJ
variable {C : GX} {nL : Nat} {ws ws' wc : va_W} {k n pc : Nat} {lv lv' : List (Nat × Value)} {st st0 As : List Value} {cc bytes : ByteArray} {Ts wds wds9 : List Cond} {own Cn : String} {RQ : Room} {cI cO : ClassId} {y : MethodName} {fr lo mc ms idx maxL b ci : Nat} {ret : Option FieldType} {fs : List Value} {T : u_T} {N : Nat}
def SX (C : GX) (b L : Nat) (xs : Nat → Int32) : Prop := match C with
  | (p, l, e, R, s, m, args, below, meth, c, A, D, Q, ro) => va_X b L xs s s.heap ∧ b < s.heap.size ∧ ¬ A b
theorem g_sld (h : OKx C cc nL Ts own RQ cI cO) {L : Nat} {xs : Nat → Int32} (hX : SX C b L xs) {i v : Int32} (hdg : decode cc pc = .ok (.iaload, 1)) (hin : vp_in i L) (hv : xs i.toNatClampNeg = v) (kk : GG C nL ws k n (pc + 1) lv (.int v :: st)) : GG C nL ws k n pc lv (.int i :: .ref b :: st) := by
  obtain ⟨p, l, e, R, s, m, args, below, meth, c, A, D, Q, ro⟩ := C
  obtain ⟨hx, hb, hml, hown, hts, hK, hA, rfl⟩ := h
  obtain ⟨hX, hbl, hbA⟩ := hX
  intro H locs ls hP hD hS hro hl
  subst hv
  exact va_sld hx hb hX hbl hbA hS hin hdg (kk H locs ls hP hD hS hro hl)
theorem g_slen (h : OKx C cc nL Ts own RQ cI cO) {L : Nat} {xs : Nat → Int32} (hX : SX C b L xs) (hdg : decode cc pc = .ok (.arraylength, 1)) (kk : GG C nL ws k n (pc + 1) lv (.int (nI L) :: st)) : GG C nL ws k n pc lv (.ref b :: st) := by
  obtain ⟨p, l, e, R, s, m, args, below, meth, c, A, D, Q, ro⟩ := C
  obtain ⟨hx, hb, hml, hown, hts, hK, hA, rfl⟩ := h
  obtain ⟨hX, hbl, hbA⟩ := hX
  intro H locs ls hP hD hS hro hl
  exact va_slen hx hb hX hbl hbA hS hdg (kk H locs ls hP hD hS hro hl)
theorem g_callIp (h : OKx C cc nL Ts own RQ cI cO) {S : Type} {post : Int32 → S → Prop} {w2 wz : S → va_W} {wr : va_W} (hdg : decode cc pc = .ok (.invokevirtual idx, 3)) (hM : CI (gL C) y wds fr lo mc ms (gD C) cI cO (.ref b :: As) wc post w2) (hw : ¬ gRo C) (is isR perm : List Nat) (his : is.map (fun i => ws[i]?) = wc.map some) (hnd : va_nd is = true) (hisR : isR.map (fun i => ws[i]?) = wr.map some) (hndR : va_nd isR = true) (hdis : ∀ i ∈ isR, i ∉ is) (hnp : va_nd perm = true) (hperm : ∀ u, perm.map (fun i => (wr ++ w2 u)[i]?) = (wz u).map some) (hg : GoodIn Ts (wsV own idx Cn y wds)) (hwd : wds = Cond.code y bytes maxL ret :: wds9) {q0 : Nat} (hq : wc[q0]? = some (b, .inr (ci, fs))) (hc : vwCl[ci]? = some (Cn, T, N)) (hd : nPar y Cn As.length = true) (hR : fr + 1 ≤ RQ.frames ∧ 8 + (maxL + 11) + lo ≤ RQ.locals) (hst : st0 = As.reverse ++ .ref b :: st) (hcat : (st.map fun v => v.category).sum ≤ 8) (hkn : k + mc ≤ RQ.cells ∧ n + ms ≤ RQ.slots) (kk : ∀ r u, post r u → GG C nL (wz u) (k + mc) (n + ms) (pc + 3) lv (.int r :: st)) : GG C nL ws k n pc lv st0 := by
  obtain ⟨p, l, e, R, s, m, args, below, meth, c, A, D, Q, ro⟩ := C
  obtain ⟨hx, hb, hml, hown, hts, hK, hA, rfl⟩ := h
  intro H locs ls hP hD hS hro hl
  subst hst
  replace hM : CI l y wds fr lo mc ms D cI cO (.ref b :: As) wc post w2 := hM
  have hPc : va_P D vwCl wc H := gp_sub hP is his
  have hDc := hD.sub is hnd his
  have hFc := va_free (wc := wc) hD hS hA is his
  refine va_calli (va_runV (As := As) (rest := st) ⟨hx, hb, hml, hown, hts⟩ (hM H.size) (cwV _ hts hg hwd rfl rfl (nPar_ok hd) hR) ⟨PcW_blind, va_recv hK hPc hc hq, fun U hU hW => ⟨rfl, by rw [hU], by rw [hU]; exact hPc, va_K.moved hW.alike hK, hDc.weaken (fun _ _ _ _ => trivial)⟩⟩ rfl rfl hl.1 rfl (lv_room hcat) hdg hkn) hS (fun q _ h9 => hFc q h9) hFc (fun r u t H1 locs1 ht hvm hw9 hB hz1 hk1 hS1 => ?_)
  obtain ⟨hP1, hK1, hD1⟩ := hB
  rw [ht] at hP1
  obtain ⟨hP2, hD2⟩ := va_join (wr := wr) (w1 := w2 u) hP hD is isR his hisR hndR hdis hk1 hFc hP1 hD1
  exact kk r u hw9 H1 locs1 ls (gp_sub hP2 perm (hperm u)) (hD2.sub perm hnp (hperm u)) hS1 (fun r9 => absurd r9 hw) hl
end GGJ
section GGJ2
variable {C : GX} {nL : Nat} {ws ws' wc : va_W} {k n pc : Nat} {lv lv' : List (Nat × Value)} {st st0 As : List Value} {cc bytes : ByteArray} {Ts wds wds9 : List Cond} {own Cn : String} {RQ : Room} {cI cO : ClassId} {y : MethodName} {fr lo mc ms idx maxL b ci : Nat} {ret : Option FieldType} {fs : List Value} {T : u_T} {N : Nat}
variable {a hm : Nat → Nat} {u : UX} {v : MX} {Z Z2 Zm : Sg} {d d2 dm : Dy} {r : Int32}

set_option maxHeartbeats 4000000 in
set_option maxRecDepth 100000 in
theorem g_lawC (h : OKx C cc nL Ts own RQ cI cO) (hw : ¬ gRo C) (hdg : decode cc pc = .ok (.invokevirtual idx, 3)) (hM : CIc (gL C) y wds fr lo (gD C) cI cO a u Z d As r Z2 d2) (hg : GoodIn Ts (wsV own idx RX3 y wds)) (hwd : wds = Cond.code y bytes maxL ret :: wds9) (hd : nPar y RX3 As.length = true) (hR : fr + 1 ≤ RQ.frames ∧ 8 + (maxL + 11) + lo ≤ RQ.locals) (hst : st0 = As.reverse ++ .ref (a 0) :: st) (hcat : (st.map fun v => v.category).sum ≤ 8) (hkn : k + (cp d2 - cp d) ≤ RQ.cells ∧ n + 2 * (cp d2 - cp d) ≤ RQ.slots) (kk : ∀ u2 : UX, RC d2 u2 → GG C nL (cw cI cO a u2 Z2 d2 ++ mwd cI hm v Zm dm) (k + (cp d2 - cp d)) (n + 2 * (cp d2 - cp d)) (pc + 3) lv (.int r :: st)) : GG C nL (cw cI cO a u Z d ++ mwd cI hm v Zm dm) k n pc lv st0 := by
  refine g_callIp h (wr := mwd cI hm v Zm dm) (wz := fun u2 => cw cI cO a u2 Z2 d2 ++ mwd cI hm v Zm dm) hdg hM hw [0, 1, 2, 3, 4, 5, 6, 7, 8, 9, 10, 11, 12, 13, 14, 15, 16, 17, 18, 19, 20, 21, 22, 23, 24, 25, 26, 27, 28, 29, 30, 31, 32, 33, 34, 35, 36, 37, 38, 39, 40, 41, 42, 43, 44, 45] [46, 47, 48, 49, 50, 51, 52, 53, 54, 55, 56, 57, 58, 59, 60, 61, 62, 63, 64, 65, 66, 67, 68, 69, 70] [25, 26, 27, 28, 29, 30, 31, 32, 33, 34, 35, 36, 37, 38, 39, 40, 41, 42, 43, 44, 45, 46, 47, 48, 49, 50, 51, 52, 53, 54, 55, 56, 57, 58, 59, 60, 61, 62, 63, 64, 65, 66, 67, 68, 69, 70, 0, 1, 2, 3, 4, 5, 6, 7, 8, 9, 10, 11, 12, 13, 14, 15, 16, 17, 18, 19, 20, 21, 22, 23, 24] rfl (by decide) rfl (by decide) (by decide) (by decide) (fun u => rfl) hg hwd (q0 := 0) rfl rfl hd hR hst hcat hkn (fun r2 u2 hp => ?_)
  obtain ⟨rfl, hRC⟩ := hp
  exact kk u2 hRC

set_option maxHeartbeats 4000000 in
set_option maxRecDepth 100000 in
theorem g_lawM (h : OKx C cc nL Ts own RQ cI cO) (hw : ¬ gRo C) (hdg : decode cc pc = .ok (.invokevirtual idx, 3)) (hM : CIm (gL C) y wds fr lo (gD C) cI cO hm v Zm dm As r Z2 d2) (hg : GoodIn Ts (wsV own idx RX4 y wds)) (hwd : wds = Cond.code y bytes maxL ret :: wds9) (hd : nPar y RX4 As.length = true) (hR : fr + 1 ≤ RQ.frames ∧ 8 + (maxL + 11) + lo ≤ RQ.locals) (hst : st0 = As.reverse ++ .ref (hm 0) :: st) (hcat : (st.map fun v => v.category).sum ≤ 8) (hkn : k + 0 ≤ RQ.cells ∧ n + 0 ≤ RQ.slots) (kk : ∀ v2 : MX, RM d2 v2 → GG C nL (cw cI cO a u Z d ++ mwd cI hm v2 Z2 d2) k n (pc + 3) lv (.int r :: st)) : GG C nL (cw cI cO a u Z d ++ mwd cI hm v Zm dm) k n pc lv st0 := by
  refine g_callIp h (wr := cw cI cO a u Z d) (wz := fun v2 => cw cI cO a u Z d ++ mwd cI hm v2 Z2 d2) hdg hM hw [46, 47, 48, 49, 50, 51, 52, 53, 54, 55, 56, 57, 58, 59, 60, 61, 62, 63, 64, 65, 66, 67, 68, 69, 70] [0, 1, 2, 3, 4, 5, 6, 7, 8, 9, 10, 11, 12, 13, 14, 15, 16, 17, 18, 19, 20, 21, 22, 23, 24, 25, 26, 27, 28, 29, 30, 31, 32, 33, 34, 35, 36, 37, 38, 39, 40, 41, 42, 43, 44, 45] [0, 1, 2, 3, 4, 5, 6, 7, 8, 9, 10, 11, 12, 13, 14, 15, 16, 17, 18, 19, 20, 21, 22, 23, 24, 25, 26, 27, 28, 29, 30, 31, 32, 33, 34, 35, 36, 37, 38, 39, 40, 41, 42, 43, 44, 45, 46, 47, 48, 49, 50, 51, 52, 53, 54, 55, 56, 57, 58, 59, 60, 61, 62, 63, 64, 65, 66, 67, 68, 69, 70] rfl (by decide) rfl (by decide) (by decide) (by decide) (fun u => rfl) hg hwd (q0 := 0) rfl rfl hd hR hst hcat hkn (fun r2 u2 hp => ?_)
  obtain ⟨rfl, hRC⟩ := hp
  exact kk u2 hRC

set_option maxHeartbeats 4000000 in
set_option maxRecDepth 100000 in
theorem g_lawCR (h : OKx C cc nL Ts own RQ cI cO) (hdg : decode cc pc = .ok (.invokevirtual idx, 3)) (hM : CRc (gL C) y wds fr lo (gD C) cI cO a u Z d As r) (hg : GoodIn Ts (wsV own idx RX3 y wds)) (hwd : wds = Cond.code y bytes maxL ret :: wds9) (hd : nPar y RX3 As.length = true) (hR : fr + 1 ≤ RQ.frames ∧ 8 + (maxL + 11) + lo ≤ RQ.locals) (hst : st0 = As.reverse ++ .ref (a 0) :: st) (hcat : (st.map fun v => v.category).sum ≤ 8) (hkn : k + 0 ≤ RQ.cells ∧ n + 0 ≤ RQ.slots) (kk : GG C nL (cw cI cO a u Z d ++ mwd cI hm v Zm dm) k n (pc + 3) lv (.int r :: st)) : GG C nL (cw cI cO a u Z d ++ mwd cI hm v Zm dm) k n pc lv st0 := by
  refine g_callR h hdg hM [0, 1, 2, 3, 4, 5, 6, 7, 8, 9, 10, 11, 12, 13, 14, 15, 16, 17, 18, 19, 20, 21, 22, 23, 24, 25, 26, 27, 28, 29, 30, 31, 32, 33, 34, 35, 36, 37, 38, 39, 40, 41, 42, 43, 44, 45] rfl (by decide) hg hwd (q0 := 0) rfl rfl hd hR hst hcat hkn (fun r2 hp => ?_)
  subst hp
  exact kk

set_option maxHeartbeats 4000000 in
set_option maxRecDepth 100000 in
theorem g_lawMR (h : OKx C cc nL Ts own RQ cI cO) (hdg : decode cc pc = .ok (.invokevirtual idx, 3)) (hM : CRm (gL C) y wds fr lo (gD C) cI cO hm v Zm dm As r) (hg : GoodIn Ts (wsV own idx RX4 y wds)) (hwd : wds = Cond.code y bytes maxL ret :: wds9) (hd : nPar y RX4 As.length = true) (hR : fr + 1 ≤ RQ.frames ∧ 8 + (maxL + 11) + lo ≤ RQ.locals) (hst : st0 = As.reverse ++ .ref (hm 0) :: st) (hcat : (st.map fun v => v.category).sum ≤ 8) (hkn : k + 0 ≤ RQ.cells ∧ n + 0 ≤ RQ.slots) (kk : GG C nL (cw cI cO a u Z d ++ mwd cI hm v Zm dm) k n (pc + 3) lv (.int r :: st)) : GG C nL (cw cI cO a u Z d ++ mwd cI hm v Zm dm) k n pc lv st0 := by
  refine g_callR h hdg hM [46, 47, 48, 49, 50, 51, 52, 53, 54, 55, 56, 57, 58, 59, 60, 61, 62, 63, 64, 65, 66, 67, 68, 69, 70] rfl (by decide) hg hwd (q0 := 0) rfl rfl hd hR hst hcat hkn (fun r2 hp => ?_)
  subst hp
  exact kk

/-- an argument: the script's int at i + j -/
theorem g_arg (h : OKx C cc 4 Ts own RQ cI cO) {L : Nat} {xs : Nat → Int32} (hX : SX C b L xs) (hL : L ≤ 2560) {i j : Nat} {z : Int} (d0 : decode cc pc = .ok (.aload_n 0, 1)) (d1 : decode cc (pc + 1) = .ok (.iload_n 3, 1)) (d2 : decode cc (pc + 1 + 1) = .ok (.iconst z, 1)) (d3 : decode cc (pc + 1 + 1 + 1) = .ok (.iadd, 1)) (d4 : decode cc (pc + 1 + 1 + 1 + 1) = .ok (.iaload, 1)) (hz : Int32.ofInt z = nI j) (hi : i + j < L) (kk : GG C 4 ws k n (pc + 1 + 1 + 1 + 1 + 1) [(0, .ref b), (1, .ref (a 0)), (2, .ref (hm 0)), (3, .int (nI i))] (.int (xs (i + j)) :: st)) : GG C 4 ws k n pc [(0, .ref b), (1, .ref (a 0)), (2, .ref (hm 0)), (3, .int (nI i))] st := by
  refine g_aload_n h d0 0 rfl ?_
  refine g_iload_n h d1 3 rfl ?_
  refine g_iconst h d2 hz ?_
  refine g_iadd h d3 ?_
  refine g_topi (y := nI (i + j)) (nI_add i j) ?_
  exact g_sld h hX d4 (vp_in_nI hi (by omega)) (by rw [nI_clamp (by omega)]) kk
end GGJ2
