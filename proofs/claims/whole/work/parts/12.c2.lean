theorem nI_nm1 {c : Nat} (h : c < 2 ^ 31) : ¬ nI c = -1 := fun q => by
  have h1 : (nI c).toInt = (-1 : Int32).toInt := congrArg Int32.toInt q
  rw [nI_toInt h, show (-1 : Int32).toInt = -1 from by decide] at h1
  omega
section GGM
variable {C : GX} {nL : Nat} {k n pc idx : Nat} {lv : List (Nat × Value)} {st : List Value} {cc : ByteArray} {Ts : List Cond} {RM : Room} {cI cO : ClassId} {a : Nat → Nat} {u : UX} {Z : Sg} {d : Dy}
theorem map_era {α β : Type} (f : α → β) : ∀ (l : List α) (i : Nat), (l.eraseIdx i).map f = (l.map f).eraseIdx i
  | [], i => rfl
  | x :: l, 0 => rfl
  | x :: l, i + 1 => by
    rw [List.eraseIdx_cons_succ, List.map_cons, List.map_cons, List.eraseIdx_cons_succ, map_era f l i]
set_option maxHeartbeats 4000000 in
set_option maxRecDepth 100000 in
/-- asks.drop -/
theorem g_adrop (h : OKx C cc nL Ts RX3 RM cI cO) (hw : ¬ gRo C) (hdg : decode cc pc = .ok (.invokevirtual idx, 3)) (hRC : RC d u) (i : Nat) (hi : i < d.2.1.length) (hg : GoodIn Ts (wsV RX3 idx RX1 yX1_drop wsX1_drop)) (hR : 1 + 1 ≤ RM.frames ∧ 8 + (4 + 11) + 60 ≤ RM.locals) (hcat : (st.map fun v => v.category).sum ≤ 8) (hkn : k ≤ RM.cells ∧ n ≤ RM.slots)
    (kk : ∀ u2 : UX, RC (xA d i) u2 → GG C nL (cw cI cO a u2 Z (xA d i)) k n (pc + 3) lv st) : GG C nL (cw cI cO a u Z d) k n pc lv (.int (nI i) :: .ref (a 42) :: st) := by
  refine g_callVp h (As := [.int (nI i)]) (st := st) (wr := crA cI cO a u Z d) (wz := fun v => cw cI cO a (u.1, u.2.1, u.2.2.1, v, u.2.2.2.2) Z (xA d i)) hdg (c_drop (gL C) (gD C) cI cO (lb (a 42) u.1) d.2.2.2.1 u.2.2.2.1 d.2.1 hRC.1 i hi _ rfl) hw [42, 43] [0, 1, 2, 3, 4, 5, 6, 7, 8, 9, 10, 11, 12, 13, 14, 15, 16, 17, 18, 19, 20, 21, 22, 23, 24, 25, 26, 27, 28, 29, 30, 31, 32, 33, 34, 35, 36, 37, 38, 39, 40, 41, 44, 45] [0, 1, 2, 3, 4, 5, 6, 7, 8, 9, 10, 11, 12, 13, 14, 15, 16, 17, 18, 19, 20, 21, 22, 23, 24, 25, 26, 27, 28, 29, 30, 31, 32, 33, 34, 35, 36, 37, 38, 39, 40, 41, 44, 45, 42, 43] rfl (by decide) rfl (by decide) (by decide) (by decide) (fun v => rfl) hg rfl (q0 := 0) rfl rfl (show nPar yX1_drop RX1 1 = true by decide +kernel) hR rfl hcat hkn (fun v hv => ?_)
  exact kk _ ⟨hv, hRC.2.1, hRC.2.2.1, hRC.2.2.2⟩
set_option maxHeartbeats 4000000 in
set_option maxRecDepth 100000 in
/-- dues.drop -/
theorem g_ddrop (h : OKx C cc nL Ts RX3 RM cI cO) (hw : ¬ gRo C) (hdg : decode cc pc = .ok (.invokevirtual idx, 3)) (hRC : RC d u) (i : Nat) (hi : i < d.2.2.1.length) (hg : GoodIn Ts (wsV RX3 idx RX1 yX1_drop wsX1_drop)) (hR : 1 + 1 ≤ RM.frames ∧ 8 + (4 + 11) + 60 ≤ RM.locals) (hcat : (st.map fun v => v.category).sum ≤ 8) (hkn : k ≤ RM.cells ∧ n ≤ RM.slots)
    (kk : ∀ u2 : UX, RC (xU d i) u2 → GG C nL (cw cI cO a u2 Z (xU d i)) k n (pc + 3) lv st) : GG C nL (cw cI cO a u Z d) k n pc lv (.int (nI i) :: .ref (a 44) :: st) := by
  have hw9 : ∀ v : Nat → Int32, cw cI cO a (u.1, u.2.1, u.2.2.1, u.2.2.2.1, v) Z (xU d i) = crD cI cO a u Z d ++ lnw cI (lb (a 44) u.2.1) (nI ((d.2.2.1.map ce).eraseIdx i).length) d.2.2.2.2 v := fun v => by
    unfold cw
    dsimp only [xU]
    rw [map_era]
    rfl
  refine g_callVp h (As := [.int (nI i)]) (st := st) (wr := crD cI cO a u Z d) (wz := fun v => crD cI cO a u Z d ++ lnw cI (lb (a 44) u.2.1) (nI ((d.2.2.1.map ce).eraseIdx i).length) d.2.2.2.2 v) hdg (c_drop (gL C) (gD C) cI cO (lb (a 44) u.2.1) d.2.2.2.2 u.2.2.2.2 (d.2.2.1.map ce) hRC.2.1 i (by rw [List.length_map]; exact hi) _ rfl) hw [44, 45] [0, 1, 2, 3, 4, 5, 6, 7, 8, 9, 10, 11, 12, 13, 14, 15, 16, 17, 18, 19, 20, 21, 22, 23, 24, 25, 26, 27, 28, 29, 30, 31, 32, 33, 34, 35, 36, 37, 38, 39, 40, 41, 42, 43] [0, 1, 2, 3, 4, 5, 6, 7, 8, 9, 10, 11, 12, 13, 14, 15, 16, 17, 18, 19, 20, 21, 22, 23, 24, 25, 26, 27, 28, 29, 30, 31, 32, 33, 34, 35, 36, 37, 38, 39, 40, 41, 42, 43, 44, 45] rfl (by decide) rfl (by decide) (by decide) (by decide) (fun v => rfl) hg rfl (q0 := 0) rfl rfl (show nPar yX1_drop RX1 1 = true by decide +kernel) hR rfl hcat hkn (fun v hv => ?_)
  have k9 := kk (u.1, u.2.1, u.2.2.1, u.2.2.2.1, v) ⟨hRC.1, by show Ln ((d.2.2.1.eraseIdx i).map ce) _ _; rw [map_era]; exact hv, hRC.2.2.1, hRC.2.2.2⟩
  rw [hw9 v] at k9
  exact k9
end GGM

theorem iX3_asksGoUp_3 : ∀ w ∈ wsX30, w ∈ wsX3_asksGoUp := by decide +kernel
theorem fX3_asksGoUp_19 : Cond.fieldLink RX3 19 "SpareShelves" "tree" "LSpareShelves$Tree;" ∈ wsX3_asksGoUp := by decide +kernel
theorem iX3_asksGoUp_2 : ∀ w ∈ wsX20, w ∈ wsX3_asksGoUp := by decide +kernel
theorem fX3_asksGoUp_77 : Cond.fieldLink RX3 77 "SpareShelves$Tree" "up" "[I" ∈ wsX3_asksGoUp := by decide +kernel
theorem fX3_asksGoUp_41 : Cond.fieldLink RX3 41 "SpareShelves" "asks" "LSpareShelves$Line;" ∈ wsX3_asksGoUp := by decide +kernel
theorem fX3_asksGoUp_48 : Cond.fieldLink RX3 48 "SpareShelves" "time" "I" ∈ wsX3_asksGoUp := by decide +kernel
set_option maxHeartbeats 4000000 in
set_option maxRecDepth 100000 in
theorem c_ups (l : Launch) (D : va_G) (cI cO : ClassId) (a : Nat → Nat) (u : UX) (Z : Sg) (d : Dy) (hRC : RC d u) (ns nk : Nat) (hz : Zv ns nk Z) (hsz : sz d ≤ 24900) (s k e : Nat) (hs : s < ns) (hk : k < nk) (hr : rch Z e 8 s) : CVc l yX3_asksGoUp wsX3_asksGoUp 4 165 D cI cO a u Z d [.int (nI s), .int (nI k), .int (nI e)] Z (ups Z k e 8 s d) := by
  unfold CVc
  refine CV.of (cc := cX3_asksGoUp) (maxL := 7) (by decide) rfl (Nat.le_of_ble_eq_true rfl) ?_
  intro C hgL hgD hw h hret
  have hn8 := hz.n8
  have hk8 := hz.k8
  refine g_iload_n h (pc := 0) dX3_asksGoUp_0 1 rfl ?_
  refine g_istore h (pc := 1) dX3_asksGoUp_1 (by decide) rfl ?_
  refine g_iconst h (pc := 3) (v := 0) dX3_asksGoUp_3 (by decide) ?_
  refine g_istore h (pc := 4) dX3_asksGoUp_4 (by decide) rfl ?_
  refine g_wid (k' := cp d - cp d) (n' := 2 * (cp d - cp d)) (by omega) (by omega) ?_
  suffices loop : ∀ (n j x : Nat) (d1 : Dy) (u1 : UX), j + n = 8 → x < ns → rch Z e n x → ups Z k e n x d1 = ups Z k e 8 s d → RC d1 u1 → cp d ≤ cp d1 → sz d1 ≤ 24900 + j → GG C 7 (cw cI cO a u1 Z d1) (cp d1 - cp d) (2 * (cp d1 - cp d)) 6 [(0, .ref (a 0)), (1, .int (nI s)), (2, .int (nI k)), (3, .int (nI e)), (4, .int (nI x)), (5, .int (nI j))] [] from loop 8 0 s d u (by omega) hs hr rfl hRC (Nat.le_refl _) (by omega)
  intro n
  induction n with
  | zero =>
    intro j x d1 u1 h1 h2 h3 hm hR1 hc1 hz1
    refine g_iload h (pc := 6) dX3_asksGoUp_6 5 rfl ?_
    refine g_bipush h (pc := 8) (v := 8) dX3_asksGoUp_8 (by decide) ?_
    refine g_icmp_ge_t h (pc := 10) (tgt := 78) dX3_asksGoUp_10 (by decide) (nI_le (a := 8) (b := j) (by omega) (by omega)) ?_
    rw [ups] at hm
    subst hm
    exact hret u1 dX3_asksGoUp_78 hR1 rfl (Nat.le_refl _) (Nat.le_refl _)
  | succ n ih =>
    intro j x d1 u1 h1 h2 h3 hm hR1 hc1 hz1
    have hle := rch_le hz (n + 1) x h2 h3
    refine g_iload h (pc := 6) dX3_asksGoUp_6 5 rfl ?_
    refine g_bipush h (pc := 8) (v := 8) dX3_asksGoUp_8 (by decide) ?_
    refine g_icmp_ge_f h (pc := 10) (tgt := 78) dX3_asksGoUp_10 (by decide) (nI_ge (a := j) (b := 8) (by omega) (by omega)) ?_
    refine g_iload h (pc := 13) dX3_asksGoUp_13 4 rfl ?_
    refine g_iload_n h (pc := 15) dX3_asksGoUp_15 3 rfl ?_
    by_cases hx : x = e
    · subst hx
      refine g_icmp_le_t h (pc := 16) (tgt := 78) dX3_asksGoUp_16 (by decide) (Int32.le_refl _) ?_
      rw [ups, if_pos rfl] at hm
      subst hm
      exact hret u1 dX3_asksGoUp_78 hR1 rfl (Nat.le_refl _) (Nat.le_refl _)
    · refine g_icmp_le_f h (pc := 16) (tgt := 78) dX3_asksGoUp_16 (by decide) (nI_ge (by omega) (by omega)) ?_
      rw [rch] at h3
      obtain ⟨h0, h3⟩ := h3.resolve_left hx
      have h4 := hz.lt h0 h2
      rw [ups, if_neg hx] at hm
      have m1 : cp d1 ≤ cp (up1 Z d1 x k) := cpl_up1 Z d1 x k
      have m2 : cp (up1 Z d1 x k) ≤ cp (ups Z k e 8 s d) := by rw [← hm]; exact cpl_ups _ _ _ _ _ _
      have z1 := sz_up1 Z d1 x k
      refine g_aload_n h (pc := 19) dX3_asksGoUp_19 0 rfl ?_
      refine g_get h (pc := 20) dX3_asksGoUp_20 iX3_asksGoUp_3 0 rfl rfl 1 (by decide) fX3_asksGoUp_19 rfl ?_
      refine g_get h (pc := 23) dX3_asksGoUp_23 iX3_asksGoUp_2 10 rfl rfl 0 (by decide) fX3_asksGoUp_77 rfl ?_
      refine g_iload h (pc := 26) dX3_asksGoUp_26 4 rfl ?_
      refine g_iald h (pc := 28) (v := nI (upx Z x)) dX3_asksGoUp_28 11 rfl (vp_in_nI (by omega) (by omega)) (by rw [nI_clamp (by omega)]; exact hz.up h0 h2) ?_
      refine g_istore h (pc := 29) dX3_asksGoUp_29 (by decide) rfl ?_
      refine g_aload_n h (pc := 31) dX3_asksGoUp_31 0 rfl ?_
      refine g_iload h (pc := 32) dX3_asksGoUp_32 6 rfl ?_
      refine g_iload_n h (pc := 34) dX3_asksGoUp_34 2 rfl ?_
      have tl : ∀ (u2 : UX), RC (up1 Z d1 x k) u2 → GG C 7 (cw cI cO a u2 Z (up1 Z d1 x k)) (cp (up1 Z d1 x k) - cp d) (2 * (cp (up1 Z d1 x k) - cp d)) 68 [(0, .ref (a 0)), (1, .int (nI s)), (2, .int (nI k)), (3, .int (nI e)), (4, .int (nI x)), (5, .int (nI j)), (6, .int (nI (upx Z x)))] [] := by
        intro u2 hR2
        refine g_iload h (pc := 68) dX3_asksGoUp_68 6 rfl ?_
        refine g_istore h (pc := 70) dX3_asksGoUp_70 (by decide) rfl ?_
        refine g_iinc h (pc := 72) dX3_asksGoUp_72 5 rfl (nI_1 j) (by decide) rfl ?_
        refine g_goto h (pc := 75) (tgt := 6) dX3_asksGoUp_75 (by decide) ?_
        refine g_lvp [0, 1, 2, 3, 4, 5] rfl ?_
        exact ih (j + 1) (upx Z x) _ u2 (by omega) (by omega) h3 hm hR2 (by omega) (by omega)
      by_cases hg : d1.1 7 (upx Z x) k = 0
      · have e1 : up1 Z d1 x k = dA d1 (nI (upx Z x), nI k, 1, Z 14 0 2, nI x) := if_pos hg
        rw [e1] at tl m1 m2
        refine g_callI h (pc := 35) (As := [.int (nI (upx Z x)), .int (nI k)]) (st := []) dX3_asksGoUp_35 (c_take0 (gL C) (gD C) cI cO a u1 Z d1 hR1 ns nk hz (upx Z x) k (by omega) hk hg) hw gX3_asksGoUp_X3_takesGood rfl (q0 := 0) rfl rfl (show nPar yX3_takesGood RX3 2 = true by decide +kernel) ⟨Nat.le_of_ble_eq_true rfl, Nat.le_of_ble_eq_true rfl⟩ rfl (Nat.le_of_ble_eq_true rfl) ⟨by show _ ≤ cp (ups Z k e 8 s d) - cp d; omega, by show _ ≤ 2 * (cp (ups Z k e 8 s d) - cp d); omega⟩ (fun r u2 hR2 => ?_)
        obtain ⟨rfl, hR2⟩ := hR2
        refine g_wid (k' := cp d1 - cp d) (n' := 2 * (cp d1 - cp d)) (by omega) (by omega) ?_
        refine g_if_eq_t h (pc := 38) (tgt := 51) dX3_asksGoUp_38 (by decide) rfl ?_
        refine g_aload_n h (pc := 51) dX3_asksGoUp_51 0 rfl ?_
        refine g_get h (pc := 52) dX3_asksGoUp_52 iX3_asksGoUp_3 0 rfl rfl 6 (by decide) fX3_asksGoUp_41 rfl ?_
        refine g_iload h (pc := 55) dX3_asksGoUp_55 6 rfl ?_
        refine g_iload_n h (pc := 57) dX3_asksGoUp_57 2 rfl ?_
        refine g_iconst h (pc := 58) (v := 1) dX3_asksGoUp_58 (by decide) ?_
        refine g_aload_n h (pc := 59) dX3_asksGoUp_59 0 rfl ?_
        refine g_get h (pc := 60) dX3_asksGoUp_60 iX3_asksGoUp_3 0 rfl rfl 8 (by decide) fX3_asksGoUp_48 rfl ?_
        refine g_iload h (pc := 63) dX3_asksGoUp_63 4 rfl ?_
        refine g_aadd h hw (pc := 65) dX3_asksGoUp_65 hR2 (by have h9 : d1.2.1.length ≤ sz d1 := Nat.le_add_right _ _; omega) (nI (upx Z x)) (nI k) 1 (Z 14 0 2) (nI x) gX3_asksGoUp_X1_add ⟨Nat.le_of_ble_eq_true rfl, Nat.le_of_ble_eq_true rfl⟩ (Nat.le_of_ble_eq_true rfl) ⟨by show _ ≤ cp (ups Z k e 8 s d) - cp d; omega, by show _ ≤ 2 * (cp (ups Z k e 8 s d) - cp d); omega⟩ (fun u3 hR3 => ?_)
        refine g_wid (k' := cp (dA d1 (nI (upx Z x), nI k, 1, Z 14 0 2, nI x)) - cp d) (n' := 2 * (cp (dA d1 (nI (upx Z x), nI k, 1, Z 14 0 2, nI x)) - cp d)) (by omega) (by omega) ?_
        exact tl u3 hR3
      · have e1 : up1 Z d1 x k = down Z (dG d1 7 (upx Z x) k (d1.1 7 (upx Z x) k - 1)) x k := if_neg hg
        rw [e1] at tl m1 m2
        have e2 : cp (dG d1 7 (upx Z x) k (d1.1 7 (upx Z x) k - 1)) = cp d1 := rfl
        have e3 : sz (dG d1 7 (upx Z x) k (d1.1 7 (upx Z x) k - 1)) = sz d1 := rfl
        refine g_callI h (pc := 35) (As := [.int (nI (upx Z x)), .int (nI k)]) (st := []) dX3_asksGoUp_35 (c_take1 (gL C) (gD C) cI cO a u1 Z d1 hR1 ns nk hz (upx Z x) k (by omega) hk hg) hw gX3_asksGoUp_X3_takesGood rfl (q0 := 0) rfl rfl (show nPar yX3_takesGood RX3 2 = true by decide +kernel) ⟨Nat.le_of_ble_eq_true rfl, Nat.le_of_ble_eq_true rfl⟩ rfl (Nat.le_of_ble_eq_true rfl) ⟨by show _ ≤ cp (ups Z k e 8 s d) - cp d; omega, by show _ ≤ 2 * (cp (ups Z k e 8 s d) - cp d); omega⟩ (fun r u2 hR2 => ?_)
        obtain ⟨rfl, hR2⟩ := hR2
        refine g_wid (k' := cp d1 - cp d) (n' := 2 * (cp d1 - cp d)) (by omega) (by omega) ?_
        refine g_if_eq_f h (pc := 38) (tgt := 51) dX3_asksGoUp_38 (by decide) (by decide) ?_
        refine g_aload_n h (pc := 41) dX3_asksGoUp_41 0 rfl ?_
        refine g_iload h (pc := 42) dX3_asksGoUp_42 4 rfl ?_
        refine g_iload_n h (pc := 44) dX3_asksGoUp_44 2 rfl ?_
        refine g_callV h (pc := 45) (As := [.int (nI x), .int (nI k)]) (st := []) dX3_asksGoUp_45 (c_down (gL C) (gD C) cI cO a u2 Z _ hR2 ns nk hz (by omega) x k (by omega) hk) hw gX3_asksGoUp_X3_goesDown rfl (q0 := 0) rfl rfl (show nPar yX3_goesDown RX3 2 = true by decide +kernel) ⟨Nat.le_of_ble_eq_true rfl, Nat.le_of_ble_eq_true rfl⟩ rfl (Nat.le_of_ble_eq_true rfl) ⟨by show _ ≤ cp (ups Z k e 8 s d) - cp d; omega, by show _ ≤ 2 * (cp (ups Z k e 8 s d) - cp d); omega⟩ (fun u3 hR3 => ?_)
        refine g_wid (k' := cp (down Z (dG d1 7 (upx Z x) k (d1.1 7 (upx Z x) k - 1)) x k) - cp d) (n' := 2 * (cp (down Z (dG d1 7 (upx Z x) k (d1.1 7 (upx Z x) k - 1)) x k) - cp d)) (by omega) (by omega) ?_
        refine g_goto h (pc := 48) (tgt := 68) dX3_asksGoUp_48 (by decide) ?_
        exact tl u3 hR3

theorem iX3_mendGetsCore_3 : ∀ w ∈ wsX30, w ∈ wsX3_mendGetsCore := by decide +kernel
theorem fX3_mendGetsCore_10 : Cond.fieldLink RX3 10 "SpareShelves" "kinds" "LSpareShelves$Kinds;" ∈ wsX3_mendGetsCore := by decide +kernel
theorem iX3_mendGetsCore_0 : ∀ w ∈ wsX00, w ∈ wsX3_mendGetsCore := by decide +kernel
theorem fX3_mendGetsCore_148 : Cond.fieldLink RX3 148 "SpareShelves$Kinds" "mendsTook" "[I" ∈ wsX3_mendGetsCore := by decide +kernel
theorem fX3_mendGetsCore_102 : Cond.fieldLink RX3 102 "SpareShelves$Kinds" "broke" "[I" ∈ wsX3_mendGetsCore := by decide +kernel
theorem fX3_mendGetsCore_19 : Cond.fieldLink RX3 19 "SpareShelves" "tree" "LSpareShelves$Tree;" ∈ wsX3_mendGetsCore := by decide +kernel
set_option maxHeartbeats 4000000 in
set_option maxRecDepth 100000 in
theorem c_serveM (l : Launch) (D : va_G) (cI cO : ClassId) (a : Nat → Nat) (u : UX) (Z : Sg) (d : Dy) (hRC : RC d u) (ns nk : Nat) (hz : Zv ns nk Z) (hsz : sz d ≤ 24800) (s c o : Nat) (hs : s < ns) (hk : c < nk) (ho : o < nk) : CVc l yX3_mendGetsCore wsX3_mendGetsCore 5 195 D cI cO a u Z d [.int (nI s), .int (nI c), .int (nI o)] Z (serveM Z d s c o) := by
  unfold CVc
  refine CV.of (cc := cX3_mendGetsCore) (maxL := 5) (by decide) rfl (Nat.le_of_ble_eq_true rfl) ?_
  intro C hgL hgD hw h hret
  have hn8 := hz.n8
  have hk8 := hz.k8
  have m1 : cp d ≤ cp (backP Z (inc (inc d 12 c) 13 c) s c) := cpl_backP Z (inc (inc d 12 c) 13 c) s c
  have m2 : cp (backP Z (inc (inc d 12 c) 13 c) s c) ≤ cp (ups Z c (mOf Z c s) 8 s (backP Z (inc (inc d 12 c) 13 c) s c)) := cpl_ups _ _ _ _ _ _
  have m3 : cp (ups Z c (mOf Z c s) 8 s (backP Z (inc (inc d 12 c) 13 c) s c)) ≤ cp (serveM Z d s c o) := cpl_begins Z _ s o
  have z1 : sz (backP Z (inc (inc d 12 c) 13 c) s c) = sz d + 1 := sz_backP Z (inc (inc d 12 c) 13 c) s c
  have z2 : sz (ups Z c (mOf Z c s) 8 s (backP Z (inc (inc d 12 c) 13 c) s c)) ≤ sz (backP Z (inc (inc d 12 c) 13 c) s c) + 8 := sz_ups _ _ _ _ _ _
  have z0 : sz (inc (inc d 12 c) 13 c) = sz d := rfl
  have e0 : cp (inc (inc d 12 c) 13 c) = cp d := rfl
  have m4 : cp (begins Z (ups Z c (mOf Z c s) 8 s (backP Z (inc (inc d 12 c) 13 c) s c)) s o) = cp (serveM Z d s c o) := rfl
  refine g_aload_n h (pc := 0) dX3_mendGetsCore_0 0 rfl ?_
  refine g_get h (pc := 1) dX3_mendGetsCore_1 iX3_mendGetsCore_3 0 rfl rfl 0 (by decide) fX3_mendGetsCore_10 rfl ?_
  refine g_get h (pc := 4) dX3_mendGetsCore_4 iX3_mendGetsCore_0 1 rfl rfl 6 (by decide) fX3_mendGetsCore_148 rfl ?_
  refine g_iload_n h (pc := 7) dX3_mendGetsCore_7 2 rfl ?_
  refine g_dup2 h (pc := 8) dX3_mendGetsCore_8 rfl rfl ?_
  refine g_iald h (pc := 9) (v := d.1 12 0 c) dX3_mendGetsCore_9 8 rfl (vp_in_nI (by omega) (by omega)) (by rw [nI_clamp (by omega)]) ?_
  refine g_iconst h (pc := 10) (v := 1) dX3_mendGetsCore_10 (by decide) ?_
  refine g_iadd h (pc := 11) dX3_mendGetsCore_11  ?_
  refine g_iast h hw (pc := 12) (ws' := cw cI cO a u Z (inc d 12 c)) dX3_mendGetsCore_12 8 rfl (vp_in_nI (by omega) (by omega)) (by rw [nI_clamp (by omega)]; rfl) ?_
  refine g_aload_n h (pc := 13) dX3_mendGetsCore_13 0 rfl ?_
  refine g_get h (pc := 14) dX3_mendGetsCore_14 iX3_mendGetsCore_3 0 rfl rfl 0 (by decide) fX3_mendGetsCore_10 rfl ?_
  refine g_get h (pc := 17) dX3_mendGetsCore_17 iX3_mendGetsCore_0 1 rfl rfl 7 (by decide) fX3_mendGetsCore_102 rfl ?_
  refine g_iload_n h (pc := 20) dX3_mendGetsCore_20 2 rfl ?_
  refine g_dup2 h (pc := 21) dX3_mendGetsCore_21 rfl rfl ?_
  refine g_iald h (pc := 22) (v := (inc d 12 c).1 13 0 c) dX3_mendGetsCore_22 9 rfl (vp_in_nI (by omega) (by omega)) (by rw [nI_clamp (by omega)]) ?_
  refine g_iconst h (pc := 23) (v := 1) dX3_mendGetsCore_23 (by decide) ?_
  refine g_iadd h (pc := 24) dX3_mendGetsCore_24  ?_
  refine g_iast h hw (pc := 25) (ws' := cw cI cO a u Z (inc (inc d 12 c) 13 c)) dX3_mendGetsCore_25 9 rfl (vp_in_nI (by omega) (by omega)) (by rw [nI_clamp (by omega)]; rfl) ?_
  refine g_aload_n h (pc := 26) dX3_mendGetsCore_26 0 rfl ?_
  refine g_get h (pc := 27) dX3_mendGetsCore_27 iX3_mendGetsCore_3 0 rfl rfl 1 (by decide) fX3_mendGetsCore_19 rfl ?_
  refine g_iload_n h (pc := 30) dX3_mendGetsCore_30 1 rfl ?_
  refine g_iload_n h (pc := 31) dX3_mendGetsCore_31 2 rfl ?_
  refine g_callR h (pc := 32) (As := [.int (nI s), .int (nI c)]) (st := []) dX3_mendGetsCore_32 (c_first (gL C) (gD C) cI cO (fun i => a (10 + i)) Z ns nk hz s c hs hk) [10, 11, 12, 13, 14, 15, 16, 17, 18, 19, 20, 21] rfl (by decide) gX3_mendGetsCore_X2_firstThatMends rfl (q0 := 0) rfl rfl (show nPar yX2_firstThatMends RX2 2 = true by decide +kernel) ⟨Nat.le_of_ble_eq_true rfl, Nat.le_of_ble_eq_true rfl⟩ rfl (Nat.le_of_ble_eq_true rfl) ⟨Nat.zero_le _, Nat.zero_le _⟩ (fun r hr => ?_)
  subst hr
  have hmle := mOf_le hz hk hs
  refine g_istore h (pc := 35) dX3_mendGetsCore_35 (by decide) rfl ?_
  refine g_iload h (pc := 37) dX3_mendGetsCore_37 4 rfl ?_
  refine g_iload_n h (pc := 39) dX3_mendGetsCore_39 1 rfl ?_
  have tl : ∀ (u2 : UX), RC (backP Z (inc (inc d 12 c) 13 c) s c) u2 → GG C 5 (cw cI cO a u2 Z (backP Z (inc (inc d 12 c) 13 c) s c)) (cp (backP Z (inc (inc d 12 c) 13 c) s c) - cp d) (2 * (cp (backP Z (inc (inc d 12 c) 13 c) s c) - cp d)) 61 [(0, .ref (a 0)), (1, .int (nI s)), (2, .int (nI c)), (3, .int (nI o)), (4, .int (nI (mOf Z c s)))] [] := by
    intro u2 hR2
    refine g_aload_n h (pc := 61) dX3_mendGetsCore_61 0 rfl ?_
    refine g_iload_n h (pc := 62) dX3_mendGetsCore_62 1 rfl ?_
    refine g_iload_n h (pc := 63) dX3_mendGetsCore_63 2 rfl ?_
    refine g_iload h (pc := 64) dX3_mendGetsCore_64 4 rfl ?_
    refine g_callV h (pc := 66) (As := [.int (nI s), .int (nI c), .int (nI (mOf Z c s))]) (st := []) dX3_mendGetsCore_66 (c_ups (gL C) (gD C) cI cO a u2 Z _ hR2 ns nk hz (by omega) s c (mOf Z c s) hs hk (rch_mo hz hk 8 s hs)) hw gX3_mendGetsCore_X3_asksGoUp rfl (q0 := 0) rfl rfl (show nPar yX3_asksGoUp RX3 3 = true by decide +kernel) ⟨Nat.le_of_ble_eq_true rfl, Nat.le_of_ble_eq_true rfl⟩ rfl (Nat.le_of_ble_eq_true rfl) ⟨by show _ ≤ cp (serveM Z d s c o) - cp d; omega, by show _ ≤ 2 * (cp (serveM Z d s c o) - cp d); omega⟩ (fun u3 hR3 => ?_)
    refine g_wid (k' := cp (ups Z c (mOf Z c s) 8 s (backP Z (inc (inc d 12 c) 13 c) s c)) - cp d) (n' := 2 * (cp (ups Z c (mOf Z c s) 8 s (backP Z (inc (inc d 12 c) 13 c) s c)) - cp d)) (by omega) (by omega) ?_
    refine g_aload_n h (pc := 69) dX3_mendGetsCore_69 0 rfl ?_
    refine g_iload_n h (pc := 70) dX3_mendGetsCore_70 1 rfl ?_
    refine g_iload_n h (pc := 71) dX3_mendGetsCore_71 3 rfl ?_
    refine g_callV h (pc := 72) (As := [.int (nI s), .int (nI o)]) (st := []) dX3_mendGetsCore_72 (c_begins (gL C) (gD C) cI cO a u3 Z _ hR3 ns nk hz (by omega) s o hs ho) hw gX3_mendGetsCore_X3_mendBegins rfl (q0 := 0) rfl rfl (show nPar yX3_mendBegins RX3 2 = true by decide +kernel) ⟨Nat.le_of_ble_eq_true rfl, Nat.le_of_ble_eq_true rfl⟩ rfl (Nat.le_of_ble_eq_true rfl) ⟨by show _ ≤ cp (serveM Z d s c o) - cp d; omega, by show _ ≤ 2 * (cp (serveM Z d s c o) - cp d); omega⟩ (fun u4 hR4 => ?_)
    refine g_wid (k' := cp (serveM Z d s c o) - cp d) (n' := 2 * (cp (serveM Z d s c o) - cp d)) (by omega) (by omega) ?_
    exact hret u4 dX3_mendGetsCore_75 hR4 rfl (Nat.le_refl _) (Nat.le_refl _)
  by_cases hm : mOf Z c s = s
  · have e1 : (backP Z (inc (inc d 12 c) 13 c) s c) = begins Z (inc (inc d 12 c) 13 c) s c := if_pos hm
    have mg : cp (backP Z (inc (inc d 12 c) 13 c) s c) = cp (begins Z (inc (inc d 12 c) 13 c) s c) := by rw [e1]
    rw [e1] at tl
    refine g_icmp_ne_f h (pc := 40) (tgt := 52) dX3_mendGetsCore_40 (by decide) (by rw [hm]) ?_
    refine g_aload_n h (pc := 43) dX3_mendGetsCore_43 0 rfl ?_
    refine g_iload_n h (pc := 44) dX3_mendGetsCore_44 1 rfl ?_
    refine g_iload_n h (pc := 45) dX3_mendGetsCore_45 2 rfl ?_
    refine g_callV h (pc := 46) (As := [.int (nI s), .int (nI c)]) (st := []) dX3_mendGetsCore_46 (c_begins (gL C) (gD C) cI cO a u Z (inc (inc d 12 c) 13 c) hRC ns nk hz (by omega) s c hs hk) hw gX3_mendGetsCore_X3_mendBegins rfl (q0 := 0) rfl rfl (show nPar yX3_mendBegins RX3 2 = true by decide +kernel) ⟨Nat.le_of_ble_eq_true rfl, Nat.le_of_ble_eq_true rfl⟩ rfl (Nat.le_of_ble_eq_true rfl) ⟨by show _ ≤ cp (serveM Z d s c o) - cp d; omega, by show _ ≤ 2 * (cp (serveM Z d s c o) - cp d); omega⟩ (fun u2 hR2 => ?_)
    refine g_wid (k' := cp (begins Z (inc (inc d 12 c) 13 c) s c) - cp d) (n' := 2 * (cp (begins Z (inc (inc d 12 c) 13 c) s c) - cp d)) (by omega) (by omega) ?_
    refine g_goto h (pc := 49) (tgt := 61) dX3_mendGetsCore_49 (by decide) ?_
    exact tl u2 hR2
  · have e1 : (backP Z (inc (inc d 12 c) 13 c) s c) = sets Z (inc (inc d 12 c) 13 c) s c (mOf Z c s) 0 := if_neg hm
    have mg : cp (backP Z (inc (inc d 12 c) 13 c) s c) = cp (sets Z (inc (inc d 12 c) 13 c) s c (mOf Z c s) 0) := by rw [e1]
    rw [e1] at tl
    refine g_icmp_ne_t h (pc := 40) (tgt := 52) dX3_mendGetsCore_40 (by decide) (fun q => hm ((nI_eq (by omega) (by omega)).mp q)) ?_
    refine g_aload_n h (pc := 52) dX3_mendGetsCore_52 0 rfl ?_
    refine g_iload_n h (pc := 53) dX3_mendGetsCore_53 1 rfl ?_
    refine g_iload_n h (pc := 54) dX3_mendGetsCore_54 2 rfl ?_
    refine g_iload h (pc := 55) dX3_mendGetsCore_55 4 rfl ?_
    refine g_iconst h (pc := 57) (v := 0) dX3_mendGetsCore_57 (by decide) ?_
    refine g_callV h (pc := 58) (As := [.int (nI s), .int (nI c), .int (nI (mOf Z c s)), .int 0]) (st := []) dX3_mendGetsCore_58 (c_sets (gL C) (gD C) cI cO a u Z (inc (inc d 12 c) 13 c) hRC ns nk hz (by omega) s c (mOf Z c s) hs hk (rch_mo hz hk 8 s hs) 0) hw gX3_mendGetsCore_X3_setsOut rfl (q0 := 0) rfl rfl (show nPar yX3_setsOut RX3 4 = true by decide +kernel) ⟨Nat.le_of_ble_eq_true rfl, Nat.le_of_ble_eq_true rfl⟩ rfl (Nat.le_of_ble_eq_true rfl) ⟨by show _ ≤ cp (serveM Z d s c o) - cp d; omega, by show _ ≤ 2 * (cp (serveM Z d s c o) - cp d); omega⟩ (fun u2 hR2 => ?_)
    refine g_wid (k' := cp (sets Z (inc (inc d 12 c) 13 c) s c (mOf Z c s) 0) - cp d) (n' := 2 * (cp (sets Z (inc (inc d 12 c) 13 c) s c (mOf Z c s) 0) - cp d)) (by omega) (by omega) ?_
    exact tl u2 hR2

theorem iX3_goesBack_3 : ∀ w ∈ wsX30, w ∈ wsX3_goesBack := by decide +kernel
theorem fX3_goesBack_19 : Cond.fieldLink RX3 19 "SpareShelves" "tree" "LSpareShelves$Tree;" ∈ wsX3_goesBack := by decide +kernel
theorem fX3_goesBack_10 : Cond.fieldLink RX3 10 "SpareShelves" "kinds" "LSpareShelves$Kinds;" ∈ wsX3_goesBack := by decide +kernel
theorem iX3_goesBack_0 : ∀ w ∈ wsX00, w ∈ wsX3_goesBack := by decide +kernel
theorem fX3_goesBack_69 : Cond.fieldLink RX3 69 "SpareShelves$Kinds" "core" "[I" ∈ wsX3_goesBack := by decide +kernel
theorem fX3_goesBack_41 : Cond.fieldLink RX3 41 "SpareShelves" "asks" "LSpareShelves$Line;" ∈ wsX3_goesBack := by decide +kernel
theorem fX3_goesBack_48 : Cond.fieldLink RX3 48 "SpareShelves" "time" "I" ∈ wsX3_goesBack := by decide +kernel
set_option maxHeartbeats 4000000 in
set_option maxRecDepth 100000 in
theorem c_back (l : Launch) (D : va_G) (cI cO : ClassId) (a : Nat → Nat) (u : UX) (Z : Sg) (d : Dy) (hRC : RC d u) (ns nk : Nat) (hz : Zv ns nk Z) (hsz : sz d ≤ 24700) (s k : Nat) (hs : s < ns) (hk : k < nk) (how : Int32) (hh : how = 0 ∨ (how = 1 ∧ ∃ c, c < nk ∧ Z 2 0 k = nI c)) : CVc l yX3_goesBack wsX3_goesBack 6 220 D cI cO a u Z d [.int (nI s), .int (nI k), .int how] Z (back Z d s k how) := by
  unfold CVc
  refine CV.of (cc := cX3_goesBack) (maxL := 6) (by decide) rfl (Nat.le_of_ble_eq_true rfl) ?_
  intro C hgL hgD hw h hret
  have hn8 := hz.n8
  have hk8 := hz.k8
  have mf : cp d ≤ cp (back Z d s k how) := cpl_back Z d s k how
  refine g_aload_n h (pc := 0) dX3_goesBack_0 0 rfl ?_
  refine g_get h (pc := 1) dX3_goesBack_1 iX3_goesBack_3 0 rfl rfl 1 (by decide) fX3_goesBack_19 rfl ?_
  refine g_iload_n h (pc := 4) dX3_goesBack_4 1 rfl ?_
  refine g_iload_n h (pc := 5) dX3_goesBack_5 2 rfl ?_
  refine g_callR h (pc := 6) (As := [.int (nI s), .int (nI k)]) (st := []) dX3_goesBack_6 (c_first (gL C) (gD C) cI cO (fun i => a (10 + i)) Z ns nk hz s k hs hk) [10, 11, 12, 13, 14, 15, 16, 17, 18, 19, 20, 21] rfl (by decide) gX3_goesBack_X2_firstThatMends rfl (q0 := 0) rfl rfl (show nPar yX2_firstThatMends RX2 2 = true by decide +kernel) ⟨Nat.le_of_ble_eq_true rfl, Nat.le_of_ble_eq_true rfl⟩ rfl (Nat.le_of_ble_eq_true rfl) ⟨Nat.zero_le _, Nat.zero_le _⟩ (fun r hr => ?_)
  subst hr
  have hmle := mOf_le hz hk hs
  refine g_istore h (pc := 9) dX3_goesBack_9 (by decide) rfl ?_
  refine g_aload_n h (pc := 11) dX3_goesBack_11 0 rfl ?_
  refine g_get h (pc := 12) dX3_goesBack_12 iX3_goesBack_3 0 rfl rfl 0 (by decide) fX3_goesBack_10 rfl ?_
  refine g_get h (pc := 15) dX3_goesBack_15 iX3_goesBack_0 1 rfl rfl 2 (by decide) fX3_goesBack_69 rfl ?_
  refine g_iload_n h (pc := 18) dX3_goesBack_18 2 rfl ?_
  refine g_iald h (pc := 19) (v := Z 2 0 k) dX3_goesBack_19 4 rfl (vp_in_nI (by omega) (by omega)) (by rw [nI_clamp (by omega)]) ?_
  refine g_istore h (pc := 20) dX3_goesBack_20 (by decide) rfl ?_
  refine g_iload h (pc := 22) dX3_goesBack_22 4 rfl ?_
  refine g_iload_n h (pc := 24) dX3_goesBack_24 1 rfl ?_
  by_cases hm : mOf Z k s = s
  · refine g_icmp_eq_t h (pc := 25) (tgt := 40) dX3_goesBack_25 (by decide) (by rw [hm]) ?_
    refine g_iload_n h (pc := 40) dX3_goesBack_40 3 rfl ?_
    refine g_iconst h (pc := 41) (v := 1) dX3_goesBack_41 (by decide) ?_
    rcases hh with rfl | ⟨rfl, c, hc, ec⟩
    · have e1 : back Z d s k 0 = begins Z d s k := by unfold back; rw [if_pos hm, if_pos rfl]
      rw [e1] at mf hret
      have mg : cp (back Z d s k 0) = cp (begins Z d s k) := by rw [e1]
      refine g_icmp_ne_t h (pc := 42) (tgt := 51) dX3_goesBack_42 (by decide) (by decide) ?_
      refine g_aload_n h (pc := 51) dX3_goesBack_51 0 rfl ?_
      refine g_iload_n h (pc := 52) dX3_goesBack_52 1 rfl ?_
      refine g_iload_n h (pc := 53) dX3_goesBack_53 2 rfl ?_
      refine g_callV h (pc := 54) (As := [.int (nI s), .int (nI k)]) (st := []) dX3_goesBack_54 (c_begins (gL C) (gD C) cI cO a u Z d hRC ns nk hz (by omega) s k hs hk) hw gX3_goesBack_X3_mendBegins rfl (q0 := 0) rfl rfl (show nPar yX3_mendBegins RX3 2 = true by decide +kernel) ⟨Nat.le_of_ble_eq_true rfl, Nat.le_of_ble_eq_true rfl⟩ rfl (Nat.le_of_ble_eq_true rfl) ⟨by show _ ≤ cp (back Z d s k 0) - cp d; omega, by show _ ≤ 2 * (cp (back Z d s k 0) - cp d); omega⟩ (fun u2 hR2 => ?_)
      refine g_goto h (pc := 57) (tgt := 97) dX3_goesBack_57 (by decide) ?_
      exact hret u2 dX3_goesBack_97 hR2 rfl (by omega) (by omega)
    · have e0 : back Z d s k 1 = arrC Z d s k c := by unfold back; rw [if_pos hm, if_neg (by decide), ec, nI_clamp (by omega)]
      refine g_icmp_ne_f h (pc := 42) (tgt := 51) dX3_goesBack_42 (by decide) rfl ?_
      refine g_iload h (pc := 45) dX3_goesBack_45 5 rfl ?_
      refine g_iconst h (pc := 47) (v := (-1)) dX3_goesBack_47 (by decide) ?_
      rw [ec]
      refine g_icmp_ne_t h (pc := 48) (tgt := 60) dX3_goesBack_48 (by decide) (nI_nm1 (by omega)) ?_
      refine g_aload_n h (pc := 60) dX3_goesBack_60 0 rfl ?_
      refine g_iload_n h (pc := 61) dX3_goesBack_61 1 rfl ?_
      refine g_iload h (pc := 62) dX3_goesBack_62 5 rfl ?_
      by_cases hg : d.1 7 s c = 0
      · have e1 : back Z d s k 1 = dA d (nI s, nI c, 2, Z 14 0 2, nI k) := by rw [e0]; exact if_pos hg
        have mg : cp (back Z d s k 1) = cp (dA d (nI s, nI c, 2, Z 14 0 2, nI k)) := by rw [e1]
        have m1 := cpl_dA d (nI s, nI c, 2, Z 14 0 2, nI k)
        rw [e1] at hret
        refine g_callI h (pc := 64) (As := [.int (nI s), .int (nI c)]) (st := []) dX3_goesBack_64 (c_take0 (gL C) (gD C) cI cO a u Z d hRC ns nk hz s c hs hc hg) hw gX3_goesBack_X3_takesGood rfl (q0 := 0) rfl rfl (show nPar yX3_takesGood RX3 2 = true by decide +kernel) ⟨Nat.le_of_ble_eq_true rfl, Nat.le_of_ble_eq_true rfl⟩ rfl (Nat.le_of_ble_eq_true rfl) ⟨by show _ ≤ cp (back Z d s k 1) - cp d; omega, by show _ ≤ 2 * (cp (back Z d s k 1) - cp d); omega⟩ (fun r u2 hR2 => ?_)
        obtain ⟨rfl, hR2⟩ := hR2
        refine g_wid (k' := cp d - cp d) (n' := 2 * (cp d - cp d)) (by omega) (by omega) ?_
        refine g_if_eq_t h (pc := 67) (tgt := 81) dX3_goesBack_67 (by decide) rfl ?_
        refine g_aload_n h (pc := 81) dX3_goesBack_81 0 rfl ?_
        refine g_get h (pc := 82) dX3_goesBack_82 iX3_goesBack_3 0 rfl rfl 6 (by decide) fX3_goesBack_41 rfl ?_
        refine g_iload_n h (pc := 85) dX3_goesBack_85 1 rfl ?_
        refine g_iload h (pc := 86) dX3_goesBack_86 5 rfl ?_
        refine g_iconst h (pc := 88) (v := 2) dX3_goesBack_88 (by decide) ?_
        refine g_aload_n h (pc := 89) dX3_goesBack_89 0 rfl ?_
        refine g_get h (pc := 90) dX3_goesBack_90 iX3_goesBack_3 0 rfl rfl 8 (by decide) fX3_goesBack_48 rfl ?_
        refine g_iload_n h (pc := 93) dX3_goesBack_93 2 rfl ?_
        refine g_aadd h hw (pc := 94) dX3_goesBack_94 hR2 (by have h9 : d.2.1.length ≤ sz d := Nat.le_add_right _ _; omega) (nI s) (nI c) 2 (Z 14 0 2) (nI k) gX3_goesBack_X1_add ⟨Nat.le_of_ble_eq_true rfl, Nat.le_of_ble_eq_true rfl⟩ (Nat.le_of_ble_eq_true rfl) ⟨by show _ ≤ cp (back Z d s k 1) - cp d; omega, by show _ ≤ 2 * (cp (back Z d s k 1) - cp d); omega⟩ (fun u3 hR3 => ?_)
        exact hret u3 dX3_goesBack_97 hR3 rfl (by omega) (by omega)
      · have e1 : back Z d s k 1 = serveM Z (dG d 7 s c (d.1 7 s c - 1)) s c k := by rw [e0]; exact if_neg hg
        have mg : cp (back Z d s k 1) = cp (serveM Z (dG d 7 s c (d.1 7 s c - 1)) s c k) := by rw [e1]
        have m1 := cpl_serveM Z (dG d 7 s c (d.1 7 s c - 1)) s c k
        have e2 : cp (dG d 7 s c (d.1 7 s c - 1)) = cp d := rfl
        have e3 : sz (dG d 7 s c (d.1 7 s c - 1)) = sz d := rfl
        rw [e1] at hret
        refine g_callI h (pc := 64) (As := [.int (nI s), .int (nI c)]) (st := []) dX3_goesBack_64 (c_take1 (gL C) (gD C) cI cO a u Z d hRC ns nk hz s c hs hc hg) hw gX3_goesBack_X3_takesGood rfl (q0 := 0) rfl rfl (show nPar yX3_takesGood RX3 2 = true by decide +kernel) ⟨Nat.le_of_ble_eq_true rfl, Nat.le_of_ble_eq_true rfl⟩ rfl (Nat.le_of_ble_eq_true rfl) ⟨by show _ ≤ cp (back Z d s k 1) - cp d; omega, by show _ ≤ 2 * (cp (back Z d s k 1) - cp d); omega⟩ (fun r u2 hR2 => ?_)
        obtain ⟨rfl, hR2⟩ := hR2
        refine g_wid (k' := cp d - cp d) (n' := 2 * (cp d - cp d)) (by omega) (by omega) ?_
        refine g_if_eq_f h (pc := 67) (tgt := 81) dX3_goesBack_67 (by decide) (by decide) ?_
        refine g_aload_n h (pc := 70) dX3_goesBack_70 0 rfl ?_
        refine g_iload_n h (pc := 71) dX3_goesBack_71 1 rfl ?_
        refine g_iload h (pc := 72) dX3_goesBack_72 5 rfl ?_
        refine g_iload_n h (pc := 74) dX3_goesBack_74 2 rfl ?_
        refine g_callV h (pc := 75) (As := [.int (nI s), .int (nI c), .int (nI k)]) (st := []) dX3_goesBack_75 (c_serveM (gL C) (gD C) cI cO a u2 Z _ hR2 ns nk hz (by omega) s c k hs hc hk) hw gX3_goesBack_X3_mendGetsCore rfl (q0 := 0) rfl rfl (show nPar yX3_mendGetsCore RX3 3 = true by decide +kernel) ⟨Nat.le_of_ble_eq_true rfl, Nat.le_of_ble_eq_true rfl⟩ rfl (Nat.le_of_ble_eq_true rfl) ⟨by show _ ≤ cp (back Z d s k 1) - cp d; omega, by show _ ≤ 2 * (cp (back Z d s k 1) - cp d); omega⟩ (fun u3 hR3 => ?_)
        refine g_goto h (pc := 78) (tgt := 97) dX3_goesBack_78 (by decide) ?_
        exact hret u3 dX3_goesBack_97 hR3 rfl (by omega) (by omega)
  · have e1 : back Z d s k how = sets Z d s k (mOf Z k s) how := if_neg hm
    have mg : cp (back Z d s k how) = cp (sets Z d s k (mOf Z k s) how) := by rw [e1]
    rw [e1] at hret
    refine g_icmp_eq_f h (pc := 25) (tgt := 40) dX3_goesBack_25 (by decide) (fun q => hm ((nI_eq (by omega) (by omega)).mp q)) ?_
    refine g_aload_n h (pc := 28) dX3_goesBack_28 0 rfl ?_
    refine g_iload_n h (pc := 29) dX3_goesBack_29 1 rfl ?_
    refine g_iload_n h (pc := 30) dX3_goesBack_30 2 rfl ?_
    refine g_iload h (pc := 31) dX3_goesBack_31 4 rfl ?_
    refine g_iload_n h (pc := 33) dX3_goesBack_33 3 rfl ?_
    refine g_callV h (pc := 34) (As := [.int (nI s), .int (nI k), .int (nI (mOf Z k s)), .int how]) (st := []) dX3_goesBack_34 (c_sets (gL C) (gD C) cI cO a u Z d hRC ns nk hz (by omega) s k (mOf Z k s) hs hk (rch_mo hz hk 8 s hs) how) hw gX3_goesBack_X3_setsOut rfl (q0 := 0) rfl rfl (show nPar yX3_setsOut RX3 4 = true by decide +kernel) ⟨Nat.le_of_ble_eq_true rfl, Nat.le_of_ble_eq_true rfl⟩ rfl (Nat.le_of_ble_eq_true rfl) ⟨by show _ ≤ cp (back Z d s k how) - cp d; omega, by show _ ≤ 2 * (cp (back Z d s k how) - cp d); omega⟩ (fun u2 hR2 => ?_)
    refine g_goto h (pc := 37) (tgt := 97) dX3_goesBack_37 (by decide) ?_
    exact hret u2 dX3_goesBack_97 hR2 rfl (by omega) (by omega)

theorem iX3_servesMachine_3 : ∀ w ∈ wsX30, w ∈ wsX3_servesMachine := by decide +kernel
theorem fX3_servesMachine_41 : Cond.fieldLink RX3 41 "SpareShelves" "asks" "LSpareShelves$Line;" ∈ wsX3_servesMachine := by decide +kernel
theorem fX3_servesMachine_48 : Cond.fieldLink RX3 48 "SpareShelves" "time" "I" ∈ wsX3_servesMachine := by decide +kernel
theorem fX3_servesMachine_10 : Cond.fieldLink RX3 10 "SpareShelves" "kinds" "LSpareShelves$Kinds;" ∈ wsX3_servesMachine := by decide +kernel
theorem iX3_servesMachine_0 : ∀ w ∈ wsX00, w ∈ wsX3_servesMachine := by decide +kernel
theorem fX3_servesMachine_145 : Cond.fieldLink RX3 145 "SpareShelves$Kinds" "machinesTook" "[I" ∈ wsX3_servesMachine := by decide +kernel
set_option maxHeartbeats 4000000 in
set_option maxRecDepth 100000 in
theorem c_machine (l : Launch) (D : va_G) (cI cO : ClassId) (a : Nat → Nat) (u : UX) (Z : Sg) (d : Dy) (hRC : RC d u) (ns nk : Nat) (hz : Zv ns nk Z) (hsz : sz d ≤ 25000) (s k : Nat) (hs : s < ns) (hk : k < nk) : CIc l yX3_servesMachine wsX3_servesMachine 3 140 D cI cO a u Z d [.int (nI s), .int (nI k)] (if d.1 7 s k = 0 then 0 else 1) Z (machine Z d s k) := by
  unfold CIc
  refine CI.of (cc := cX3_servesMachine) (maxL := 3) (rt := .boolean) (by decide) rfl (Nat.le_of_ble_eq_true rfl) ?_
  intro C hgL hgD hw h hret
  have hn8 := hz.n8
  have hk8 := hz.k8
  refine g_aload_n h (pc := 0) dX3_servesMachine_0 0 rfl ?_
  refine g_iload_n h (pc := 1) dX3_servesMachine_1 1 rfl ?_
  refine g_iload_n h (pc := 2) dX3_servesMachine_2 2 rfl ?_
  by_cases hg : d.1 7 s k = 0
  · have e1 : machine Z d s k = dA d (nI s, nI k, 0, Z 14 0 2, -1) := if_pos hg
    have mg : cp (machine Z d s k) = cp (dA d (nI s, nI k, 0, Z 14 0 2, -1)) := by rw [e1]
    have m1 := cpl_dA d (nI s, nI k, 0, Z 14 0 2, -1)
    rw [e1, if_pos hg] at hret
    refine g_callI h (pc := 3) (As := [.int (nI s), .int (nI k)]) (st := []) dX3_servesMachine_3 (c_take0 (gL C) (gD C) cI cO a u Z d hRC ns nk hz s k hs hk hg) hw gX3_servesMachine_X3_takesGood rfl (q0 := 0) rfl rfl (show nPar yX3_takesGood RX3 2 = true by decide +kernel) ⟨Nat.le_of_ble_eq_true rfl, Nat.le_of_ble_eq_true rfl⟩ rfl (Nat.le_of_ble_eq_true rfl) ⟨by show _ ≤ cp (machine Z d s k) - cp d; omega, by show _ ≤ 2 * (cp (machine Z d s k) - cp d); omega⟩ (fun r u2 hR2 => ?_)
    obtain ⟨rfl, hR2⟩ := hR2
    refine g_wid (k' := cp d - cp d) (n' := 2 * (cp d - cp d)) (by omega) (by omega) ?_
    refine g_if_eq_t h (pc := 6) (tgt := 24) dX3_servesMachine_6 (by decide) rfl ?_
    refine g_aload_n h (pc := 24) dX3_servesMachine_24 0 rfl ?_
    refine g_get h (pc := 25) dX3_servesMachine_25 iX3_servesMachine_3 0 rfl rfl 6 (by decide) fX3_servesMachine_41 rfl ?_
    refine g_iload_n h (pc := 28) dX3_servesMachine_28 1 rfl ?_
    refine g_iload_n h (pc := 29) dX3_servesMachine_29 2 rfl ?_
    refine g_iconst h (pc := 30) (v := 0) dX3_servesMachine_30 (by decide) ?_
    refine g_aload_n h (pc := 31) dX3_servesMachine_31 0 rfl ?_
    refine g_get h (pc := 32) dX3_servesMachine_32 iX3_servesMachine_3 0 rfl rfl 8 (by decide) fX3_servesMachine_48 rfl ?_
    refine g_iconst h (pc := 35) (v := (-1)) dX3_servesMachine_35 (by decide) ?_
    refine g_aadd h hw (pc := 36) dX3_servesMachine_36 hR2 (by have h9 : d.2.1.length ≤ sz d := Nat.le_add_right _ _; omega) (nI s) (nI k) 0 (Z 14 0 2) (-1) gX3_servesMachine_X1_add ⟨Nat.le_of_ble_eq_true rfl, Nat.le_of_ble_eq_true rfl⟩ (Nat.le_of_ble_eq_true rfl) ⟨by show _ ≤ cp (machine Z d s k) - cp d; omega, by show _ ≤ 2 * (cp (machine Z d s k) - cp d); omega⟩ (fun u3 hR3 => ?_)
    refine g_iconst h (pc := 39) (v := 0) dX3_servesMachine_39 (by decide) ?_
    exact hret _ u3 dX3_servesMachine_40 (by decide) ⟨rfl, hR3⟩ rfl (by omega) (by omega)
  · have e1 : machine Z d s k = inc (dG d 7 s k (d.1 7 s k - 1)) 11 k := if_neg hg
    have mg : cp (machine Z d s k) = cp d := by rw [e1]; rfl
    have e2 : cp (dG d 7 s k (d.1 7 s k - 1)) = cp d := rfl
    rw [e1, if_neg hg] at hret
    refine g_callI h (pc := 3) (As := [.int (nI s), .int (nI k)]) (st := []) dX3_servesMachine_3 (c_take1 (gL C) (gD C) cI cO a u Z d hRC ns nk hz s k hs hk hg) hw gX3_servesMachine_X3_takesGood rfl (q0 := 0) rfl rfl (show nPar yX3_takesGood RX3 2 = true by decide +kernel) ⟨Nat.le_of_ble_eq_true rfl, Nat.le_of_ble_eq_true rfl⟩ rfl (Nat.le_of_ble_eq_true rfl) ⟨by show _ ≤ cp (machine Z d s k) - cp d; omega, by show _ ≤ 2 * (cp (machine Z d s k) - cp d); omega⟩ (fun r u2 hR2 => ?_)
    obtain ⟨rfl, hR2⟩ := hR2
    refine g_wid (k' := cp d - cp d) (n' := 2 * (cp d - cp d)) (by omega) (by omega) ?_
    refine g_if_eq_f h (pc := 6) (tgt := 24) dX3_servesMachine_6 (by decide) (by decide) ?_
    refine g_aload_n h (pc := 9) dX3_servesMachine_9 0 rfl ?_
    refine g_get h (pc := 10) dX3_servesMachine_10 iX3_servesMachine_3 0 rfl rfl 0 (by decide) fX3_servesMachine_10 rfl ?_
    refine g_get h (pc := 13) dX3_servesMachine_13 iX3_servesMachine_0 1 rfl rfl 5 (by decide) fX3_servesMachine_145 rfl ?_
    refine g_iload_n h (pc := 16) dX3_servesMachine_16 2 rfl ?_
    refine g_dup2 h (pc := 17) dX3_servesMachine_17 rfl rfl ?_
    refine g_iald h (pc := 18) (v := (dG d 7 s k (d.1 7 s k - 1)).1 11 0 k) dX3_servesMachine_18 7 rfl (vp_in_nI (by omega) (by omega)) (by rw [nI_clamp (by omega)]) ?_
    refine g_iconst h (pc := 19) (v := 1) dX3_servesMachine_19 (by decide) ?_
    refine g_iadd h (pc := 20) dX3_servesMachine_20  ?_
    refine g_iast h hw (pc := 21) (ws' := cw cI cO a u2 Z (inc (dG d 7 s k (d.1 7 s k - 1)) 11 k)) dX3_servesMachine_21 7 rfl (vp_in_nI (by omega) (by omega)) (by rw [nI_clamp (by omega)]; rfl) ?_
    refine g_iconst h (pc := 22) (v := 1) dX3_servesMachine_22 (by decide) ?_
    exact hret _ u2 dX3_servesMachine_23 (by decide) ⟨rfl, hR2⟩ rfl (Nat.le_refl _) (Nat.le_refl _)
