theorem iX3_flowOf_3 : ∀ w ∈ wsX30, w ∈ wsX3_flowOf := by decide +kernel
theorem fX3_flowOf_35 : Cond.fieldLink RX3 35 "SpareShelves" "flows" "[I" ∈ wsX3_flowOf := by decide +kernel
theorem fX3_flowOf_19 : Cond.fieldLink RX3 19 "SpareShelves" "tree" "LSpareShelves$Tree;" ∈ wsX3_flowOf := by decide +kernel
theorem iX3_flowOf_2 : ∀ w ∈ wsX20, w ∈ wsX3_flowOf := by decide +kernel
theorem fX3_flowOf_72 : Cond.fieldLink RX3 72 "SpareShelves$Tree" "mendDays" "[[I" ∈ wsX3_flowOf := by decide +kernel
theorem fX3_flowOf_77 : Cond.fieldLink RX3 77 "SpareShelves$Tree" "up" "[I" ∈ wsX3_flowOf := by decide +kernel
theorem fX3_flowOf_76 : Cond.fieldLink RX3 76 "SpareShelves$Tree" "size" "I" ∈ wsX3_flowOf := by decide +kernel
theorem fX3_flowOf_28 : Cond.fieldLink RX3 28 "SpareShelves" "rates" "[[I" ∈ wsX3_flowOf := by decide +kernel
set_option maxHeartbeats 4000000 in
set_option maxRecDepth 100000 in
theorem c_flow (l : Launch) (D : va_G) (cI cO : ClassId) (a : Nat → Nat) (u : UX) (Z : Sg) (d : Dy) (hRC : RC d u) (ns nk : Nat) (hz : Zv ns nk Z) (s k : Nat) (hs : s < ns) (hk : k < nk) : CIc l yX3_flowOf wsX3_flowOf 0 0 D cI cO a u Z d [.int (nI s), .int (nI k)] (flowF Z ns k s) Z d := by
  unfold CIc
  refine CI.of (cc := cX3_flowOf) (maxL := 4) (rt := .int) (by decide) rfl (Nat.le_of_ble_eq_true rfl) ?_
  intro C hgL hgD hw h hret
  have hn8 := hz.n8
  have hk8 := hz.k8
  refine g_iconst h (pc := 0) (v := 0) dX3_flowOf_0 (by decide) ?_
  refine g_istore_n h (pc := 1) dX3_flowOf_1 (by decide) rfl ?_
  have l2 : ∀ (m i : Nat) (fl : Nat → Int32), s ≤ i → i < ns → i = s + m → (∀ x, x < ns → fl x = prt Z ns k (ns - 1 - i) x) → GG C 4 (cw cI cO a (u.1, u.2.1, fl, u.2.2.2.1, u.2.2.2.2) Z d) 0 0 43 [(0, .ref (a 0)), (1, .int (nI s)), (2, .int (nI k)), (3, .int (nI i))] [] := by
    intro m
    induction m with
    | zero =>
      intro i fl h1 h2 h3 hf
      refine g_iload_n h (pc := 43) dX3_flowOf_43 3 rfl ?_
      refine g_iload_n h (pc := 44) dX3_flowOf_44 1 rfl ?_
      refine g_icmp_le_t h (pc := 45) (tgt := 91) dX3_flowOf_45 (by decide) (nI_le (by omega) (by omega)) ?_
      refine g_aload_n h (pc := 91) dX3_flowOf_91 0 rfl ?_
      refine g_get h (pc := 92) dX3_flowOf_92 iX3_flowOf_3 0 rfl rfl 5 (by decide) fX3_flowOf_35 rfl ?_
      refine g_iload_n h (pc := 95) dX3_flowOf_95 1 rfl ?_
      refine g_iald h (pc := 96) (v := flowF Z ns k s) dX3_flowOf_96 41 rfl (vp_in_nI (by omega) (by omega)) (by rw [nI_clamp (by omega)]; show fl s = _; rw [hf s hs, show i = s by omega, prt_e Z hz.n8 hs]) ?_
      exact hret _ (u.1, u.2.1, fl, u.2.2.2.1, u.2.2.2.2) dX3_flowOf_97 rfl ⟨rfl, hRC⟩ rfl (Nat.zero_le _) (Nat.zero_le _)
    | succ m ih =>
      intro i fl h1 h2 h3 hf
      have hi1 : 1 ≤ i := by omega
      have hup := hz.up hi1 h2
      have hlt := hz.lt hi1 h2
      have hj : ns - 1 - (i - 1) = (ns - 1 - i) + 1 := by omega
      have hii : ns - 1 - (ns - 1 - i) = i := by omega
      have hpi : fl i = flowF Z ns k i := by rw [hf i h2, prt_e Z hz.n8 h2]
      have hd : nI i + Int32.ofInt (-1) = nI (i - 1) := by
        obtain ⟨i0, rfl⟩ : ∃ i0, i = i0 + 1 := ⟨i - 1, by omega⟩
        exact pk_m1 i0
      refine g_iload_n h (pc := 43) dX3_flowOf_43 3 rfl ?_
      refine g_iload_n h (pc := 44) dX3_flowOf_44 1 rfl ?_
      refine g_icmp_le_f h (pc := 45) (tgt := 91) dX3_flowOf_45 (by decide) (nI_ge (by omega) (by omega)) ?_
      refine g_aload_n h (pc := 48) dX3_flowOf_48 0 rfl ?_
      refine g_get h (pc := 49) dX3_flowOf_49 iX3_flowOf_3 0 rfl rfl 1 (by decide) fX3_flowOf_19 rfl ?_
      refine g_get h (pc := 52) dX3_flowOf_52 iX3_flowOf_2 10 rfl rfl 2 (by decide) fX3_flowOf_72 rfl ?_
      refine g_iload_n h (pc := 55) dX3_flowOf_55 3 rfl ?_
      refine g_aald h (pc := 56) (v := a (10 + (4 + i))) dX3_flowOf_56 13 rfl (vp_in_nI (by omega) (by omega)) (by rw [nI_clamp (by omega)]) ?_
      refine g_iload_n h (pc := 57) dX3_flowOf_57 2 rfl ?_
      refine g_iald h (pc := 58) (v := Z 6 i k) dX3_flowOf_58 (10 + (4 + i)) (cw_m cI cO a (u.1, u.2.1, fl, u.2.2.2.1, u.2.2.2.2) Z d (by omega)) (vp_in_nI (by omega) (by omega)) (by rw [nI_clamp (by omega)]) ?_
      refine g_if_ne h (pc := 59) (tgt := 85) dX3_flowOf_59 (by decide) (fun c2 => ?_) (fun c2 => ?_)
      · refine g_iinc h (pc := 85) dX3_flowOf_85 3 rfl hd (by decide) rfl ?_
        refine g_goto h (pc := 88) (tgt := 43) dX3_flowOf_88 (by decide) ?_
        exact ih (i - 1) fl (by omega) (by omega) (by omega) (fun y hy => by rw [hf y hy, hj, prt_s, hii]; unfold hnd; rw [if_neg (fun q => c2 q.2), Int32.add_zero])
      · refine g_aload_n h (pc := 62) dX3_flowOf_62 0 rfl ?_
        refine g_get h (pc := 63) dX3_flowOf_63 iX3_flowOf_3 0 rfl rfl 5 (by decide) fX3_flowOf_35 rfl ?_
        refine g_aload_n h (pc := 66) dX3_flowOf_66 0 rfl ?_
        refine g_get h (pc := 67) dX3_flowOf_67 iX3_flowOf_3 0 rfl rfl 1 (by decide) fX3_flowOf_19 rfl ?_
        refine g_get h (pc := 70) dX3_flowOf_70 iX3_flowOf_2 10 rfl rfl 0 (by decide) fX3_flowOf_77 rfl ?_
        refine g_iload_n h (pc := 73) dX3_flowOf_73 3 rfl ?_
        refine g_iald h (pc := 74) (v := nI (upx Z i)) dX3_flowOf_74 11 rfl (vp_in_nI (by omega) (by omega)) (by rw [nI_clamp (by omega)]; exact hup) ?_
        refine g_dup2 h (pc := 75) dX3_flowOf_75 rfl rfl ?_
        refine g_iald h (pc := 76) (v := fl (upx Z i)) dX3_flowOf_76 41 rfl (vp_in_nI (by omega) (by omega)) (by rw [nI_clamp (by omega)]) ?_
        refine g_aload_n h (pc := 77) dX3_flowOf_77 0 rfl ?_
        refine g_get h (pc := 78) dX3_flowOf_78 iX3_flowOf_3 0 rfl rfl 5 (by decide) fX3_flowOf_35 rfl ?_
        refine g_iload_n h (pc := 81) dX3_flowOf_81 3 rfl ?_
        refine g_iald h (pc := 82) (v := fl i) dX3_flowOf_82 41 rfl (vp_in_nI (by omega) (by omega)) (by rw [nI_clamp (by omega)]) ?_
        refine g_iadd h (pc := 83) dX3_flowOf_83  ?_
        refine g_iast h hw (pc := 84) (ws' := cw cI cO a (u.1, u.2.1, upd fl (upx Z i) (fl (upx Z i) + fl i), u.2.2.2.1, u.2.2.2.2) Z d) dX3_flowOf_84 41 rfl (vp_in_nI (by omega) (by omega)) (by rw [nI_clamp (by omega)]; rfl) ?_
        refine g_iinc h (pc := 85) dX3_flowOf_85 3 rfl hd (by decide) rfl ?_
        refine g_goto h (pc := 88) (tgt := 43) dX3_flowOf_88 (by decide) ?_
        refine ih (i - 1) _ (by omega) (by omega) (by omega) (fun y hy => ?_)
        rw [hj, prt_s, hii]
        unfold hnd
        by_cases hy2 : y = upx Z i
        · subst hy2
          rw [pk_us, hf _ hy, hpi, if_pos ⟨hup, c2⟩]
        · rw [pk_un hy2, hf y hy, if_neg (fun q => hy2 ((nI_eq (by omega) (by omega)).mp (q.1.symm.trans hup))), Int32.add_zero]
  suffices loop : ∀ (m i : Nat) (fl : Nat → Int32), i + m = ns → (∀ x, x < i → fl x = Z 8 x k) → GG C 4 (cw cI cO a (u.1, u.2.1, fl, u.2.2.2.1, u.2.2.2.2) Z d) 0 0 2 [(0, .ref (a 0)), (1, .int (nI s)), (2, .int (nI k)), (3, .int (nI i))] [] from loop ns 0 u.2.2.1 (by omega) (fun x hx => absurd hx (by omega))
  intro m
  induction m with
  | zero =>
    intro i fl h1 hf
    refine g_iload_n h (pc := 2) dX3_flowOf_2 3 rfl ?_
    refine g_aload_n h (pc := 3) dX3_flowOf_3 0 rfl ?_
    refine g_get h (pc := 4) dX3_flowOf_4 iX3_flowOf_3 0 rfl rfl 1 (by decide) fX3_flowOf_19 rfl ?_
    refine g_get h (pc := 7) dX3_flowOf_7 iX3_flowOf_2 10 rfl rfl 3 (by decide) fX3_flowOf_76 rfl ?_
    refine g_topi hz.ns ?_
    refine g_icmp_ge_t h (pc := 10) (tgt := 33) dX3_flowOf_10 (by decide) (nI_le (by omega) (by omega)) ?_
    refine g_aload_n h (pc := 33) dX3_flowOf_33 0 rfl ?_
    refine g_get h (pc := 34) dX3_flowOf_34 iX3_flowOf_3 0 rfl rfl 1 (by decide) fX3_flowOf_19 rfl ?_
    refine g_get h (pc := 37) dX3_flowOf_37 iX3_flowOf_2 10 rfl rfl 3 (by decide) fX3_flowOf_76 rfl ?_
    refine g_topi hz.ns ?_
    refine g_iconst h (pc := 40) (v := 1) dX3_flowOf_40 (by decide) ?_
    refine g_isub h (pc := 41) dX3_flowOf_41  ?_
    refine g_topi (y := nI (ns - 1)) (by rw [show (1 : Int32) = nI 1 from rfl, pk_sub (by omega)]) ?_
    refine g_istore_n h (pc := 42) dX3_flowOf_42 (by decide) rfl ?_
    exact l2 (ns - 1 - s) (ns - 1) fl (by omega) (by omega) (by omega) (fun y hy => by rw [hf y (by omega), show ns - 1 - (ns - 1) = 0 by omega, prt_0])
  | succ m ih =>
    intro i fl h1 hf
    refine g_iload_n h (pc := 2) dX3_flowOf_2 3 rfl ?_
    refine g_aload_n h (pc := 3) dX3_flowOf_3 0 rfl ?_
    refine g_get h (pc := 4) dX3_flowOf_4 iX3_flowOf_3 0 rfl rfl 1 (by decide) fX3_flowOf_19 rfl ?_
    refine g_get h (pc := 7) dX3_flowOf_7 iX3_flowOf_2 10 rfl rfl 3 (by decide) fX3_flowOf_76 rfl ?_
    refine g_topi hz.ns ?_
    refine g_icmp_ge_f h (pc := 10) (tgt := 33) dX3_flowOf_10 (by decide) (nI_ge (by omega) (by omega)) ?_
    refine g_aload_n h (pc := 13) dX3_flowOf_13 0 rfl ?_
    refine g_get h (pc := 14) dX3_flowOf_14 iX3_flowOf_3 0 rfl rfl 5 (by decide) fX3_flowOf_35 rfl ?_
    refine g_iload_n h (pc := 17) dX3_flowOf_17 3 rfl ?_
    refine g_aload_n h (pc := 18) dX3_flowOf_18 0 rfl ?_
    refine g_get h (pc := 19) dX3_flowOf_19 iX3_flowOf_3 0 rfl rfl 3 (by decide) fX3_flowOf_28 rfl ?_
    refine g_iload_n h (pc := 22) dX3_flowOf_22 3 rfl ?_
    refine g_aald h (pc := 23) (v := a (32 + i)) dX3_flowOf_23 31 rfl (vp_in_nI (by omega) (by omega)) (by rw [nI_clamp (by omega)]) ?_
    refine g_iload_n h (pc := 24) dX3_flowOf_24 2 rfl ?_
    refine g_iald h (pc := 25) (v := Z 8 i k) dX3_flowOf_25 (32 + i) (cw_r cI cO a (u.1, u.2.1, fl, u.2.2.2.1, u.2.2.2.2) Z d (by omega)) (vp_in_nI (by omega) (by omega)) (by rw [nI_clamp (by omega)]) ?_
    refine g_iast h hw (pc := 26) (ws' := cw cI cO a (u.1, u.2.1, upd fl i (Z 8 i k), u.2.2.2.1, u.2.2.2.2) Z d) dX3_flowOf_26 41 rfl (vp_in_nI (by omega) (by omega)) (by rw [nI_clamp (by omega)]; rfl) ?_
    refine g_iinc h (pc := 27) dX3_flowOf_27 3 rfl (nI_1 i) (by decide) rfl ?_
    refine g_goto h (pc := 30) (tgt := 2) dX3_flowOf_30 (by decide) ?_
    refine ih (i + 1) _ (by omega) (fun y hy => ?_)
    by_cases hy2 : y = i
    · subst hy2
      exact pk_us
    · rw [pk_un hy2, hf y (by omega)]

theorem iX3_pipeOf_3 : ∀ w ∈ wsX30, w ∈ wsX3_pipeOf := by decide +kernel
theorem fX3_pipeOf_19 : Cond.fieldLink RX3 19 "SpareShelves" "tree" "LSpareShelves$Tree;" ∈ wsX3_pipeOf := by decide +kernel
theorem iX3_pipeOf_2 : ∀ w ∈ wsX20, w ∈ wsX3_pipeOf := by decide +kernel
theorem fX3_pipeOf_72 : Cond.fieldLink RX3 72 "SpareShelves$Tree" "mendDays" "[[I" ∈ wsX3_pipeOf := by decide +kernel
theorem fX3_pipeOf_80 : Cond.fieldLink RX3 80 "SpareShelves$Tree" "way" "[I" ∈ wsX3_pipeOf := by decide +kernel
set_option maxHeartbeats 4000000 in
set_option maxRecDepth 100000 in
theorem c_pipeOf (l : Launch) (D : va_G) (cI cO : ClassId) (a : Nat → Nat) (u : UX) (Z : Sg) (d : Dy) (hRC : RC d u) (ns nk : Nat) (hz : Zv ns nk Z) (s k : Nat) (hs : s < ns) (hk : k < nk) : CIc l yX3_pipeOf wsX3_pipeOf 1 30 D cI cO a u Z d [.int (nI s), .int (nI k)] (pipeF Z ns k s) Z d := by
  unfold CIc
  refine CI.of (cc := cX3_pipeOf) (maxL := 4) (rt := .int) (by decide) rfl (Nat.le_of_ble_eq_true rfl) ?_
  intro C hgL hgD hw h hret
  have hn8 := hz.n8
  have hk8 := hz.k8
  refine g_aload_n h (pc := 0) dX3_pipeOf_0 0 rfl ?_
  refine g_get h (pc := 1) dX3_pipeOf_1 iX3_pipeOf_3 0 rfl rfl 1 (by decide) fX3_pipeOf_19 rfl ?_
  refine g_get h (pc := 4) dX3_pipeOf_4 iX3_pipeOf_2 10 rfl rfl 2 (by decide) fX3_pipeOf_72 rfl ?_
  refine g_iload_n h (pc := 7) dX3_pipeOf_7 1 rfl ?_
  refine g_aald h (pc := 8) (v := a (10 + (4 + s))) dX3_pipeOf_8 13 rfl (vp_in_nI (by omega) (by omega)) (by rw [nI_clamp (by omega)]) ?_
  refine g_iload_n h (pc := 9) dX3_pipeOf_9 2 rfl ?_
  refine g_iald h (pc := 10) (v := Z 6 s k) dX3_pipeOf_10 (10 + (4 + s)) (cw_m cI cO a u Z d (by omega)) (vp_in_nI (by omega) (by omega)) (by rw [nI_clamp (by omega)]) ?_
  refine g_istore_n h (pc := 11) dX3_pipeOf_11 (by decide) rfl ?_
  refine g_aload_n h (pc := 12) dX3_pipeOf_12 0 rfl ?_
  refine g_iload_n h (pc := 13) dX3_pipeOf_13 1 rfl ?_
  refine g_iload_n h (pc := 14) dX3_pipeOf_14 2 rfl ?_
  refine g_callI h (pc := 15) (As := [.int (nI s), .int (nI k)]) (st := []) dX3_pipeOf_15 (c_flow (gL C) (gD C) cI cO a u Z d hRC ns nk hz s k hs hk) hw gX3_pipeOf_X3_flowOf rfl (q0 := 0) rfl rfl (show nPar yX3_flowOf RX3 2 = true by decide +kernel) ⟨Nat.le_of_ble_eq_true rfl, Nat.le_of_ble_eq_true rfl⟩ rfl (Nat.le_of_ble_eq_true rfl) ⟨by show 0 + (cp d - cp d) ≤ cp d - cp d; omega, by show 0 + 2 * (cp d - cp d) ≤ 2 * (cp d - cp d); omega⟩ (fun r u2 hR2 => ?_)
  obtain ⟨rfl, hR2⟩ := hR2
  refine g_iload_n h (pc := 18) dX3_pipeOf_18 3 rfl ?_
  refine g_wid (k' := cp d - cp d) (n' := 2 * (cp d - cp d)) (by omega) (by omega) ?_
  refine g_if_le h (pc := 19) (tgt := 26) dX3_pipeOf_19 (by decide) (fun c1 => ?_) (fun c1 => ?_)
  · refine g_aload_n h (pc := 26) dX3_pipeOf_26 0 rfl ?_
    refine g_get h (pc := 27) dX3_pipeOf_27 iX3_pipeOf_3 0 rfl rfl 1 (by decide) fX3_pipeOf_19 rfl ?_
    refine g_get h (pc := 30) dX3_pipeOf_30 iX3_pipeOf_2 10 rfl rfl 1 (by decide) fX3_pipeOf_80 rfl ?_
    refine g_iload_n h (pc := 33) dX3_pipeOf_33 1 rfl ?_
    refine g_iald h (pc := 34) (v := Z 4 0 s) dX3_pipeOf_34 12 rfl (vp_in_nI (by omega) (by omega)) (by rw [nI_clamp (by omega)]) ?_
    refine g_imul h (pc := 35) dX3_pipeOf_35  ?_
    exact hret _ u2 dX3_pipeOf_36 rfl ⟨by unfold pipeF; rw [if_neg (Int32.not_lt.mpr c1)], hR2⟩ rfl (Nat.le_refl _) (Nat.le_refl _)
  · refine g_iload_n h (pc := 22) dX3_pipeOf_22 3 rfl ?_
    refine g_goto h (pc := 23) (tgt := 35) dX3_pipeOf_23 (by decide) ?_
    refine g_imul h (pc := 35) dX3_pipeOf_35  ?_
    exact hret _ u2 dX3_pipeOf_36 rfl ⟨by unfold pipeF; rw [if_pos (Int32.not_le.mp c1)], hR2⟩ rfl (Nat.le_refl _) (Nat.le_refl _)

theorem iX3_wantOf_3 : ∀ w ∈ wsX30, w ∈ wsX3_wantOf := by decide +kernel
theorem fX3_wantOf_25 : Cond.fieldLink RX3 25 "SpareShelves" "good" "[[I" ∈ wsX3_wantOf := by decide +kernel
theorem mX3_wantOf_1 : Cond.methodLink RX3 184 Lib.Math.max.name ∈ wsX3_wantOf := by decide +kernel
theorem mX3_wantOf_2 : Cond.static Lib.Math.max.name ∈ wsX3_wantOf := by decide +kernel
theorem mX3_wantOf_3 : Cond.initialized "java/lang/Math" ∈ wsX3_wantOf := by decide +kernel
theorem mX3_wantOf_4 : Cond.code Lib.Math.max.name Lib.Math.max.code 2 (some .int) ∈ wsX3_wantOf := by decide +kernel
set_option maxHeartbeats 4000000 in
set_option maxRecDepth 100000 in
theorem c_wantOf (l : Launch) (D : va_G) (cI cO : ClassId) (a : Nat → Nat) (u : UX) (Z : Sg) (d : Dy) (hRC : RC d u) (ns nk : Nat) (hz : Zv ns nk Z) (s k : Nat) (hs : s < ns) (hk : k < nk) : CIc l yX3_wantOf wsX3_wantOf 2 55 D cI cO a u Z d [.int (nI s), .int (nI k)] (wantF Z d ns k s) Z d := by
  unfold CIc
  refine CI.of (cc := cX3_wantOf) (maxL := 3) (rt := .int) (by decide) rfl (Nat.le_of_ble_eq_true rfl) ?_
  intro C hgL hgD hw h hret
  have hn8 := hz.n8
  have hk8 := hz.k8
  refine g_iconst h (pc := 0) (v := 0) dX3_wantOf_0 (by decide) ?_
  refine g_aload_n h (pc := 1) dX3_wantOf_1 0 rfl ?_
  refine g_iload_n h (pc := 2) dX3_wantOf_2 1 rfl ?_
  refine g_iload_n h (pc := 3) dX3_wantOf_3 2 rfl ?_
  refine g_callI h (pc := 4) (As := [.int (nI s), .int (nI k)]) (st := [.int 0]) dX3_wantOf_4 (c_pipeOf (gL C) (gD C) cI cO a u Z d hRC ns nk hz s k hs hk) hw gX3_wantOf_X3_pipeOf rfl (q0 := 0) rfl rfl (show nPar yX3_pipeOf RX3 2 = true by decide +kernel) ⟨Nat.le_of_ble_eq_true rfl, Nat.le_of_ble_eq_true rfl⟩ rfl (Nat.le_of_ble_eq_true rfl) ⟨by show 0 + (cp d - cp d) ≤ cp d - cp d; omega, by show 0 + 2 * (cp d - cp d) ≤ 2 * (cp d - cp d); omega⟩ (fun r u2 hR2 => ?_)
  obtain ⟨rfl, hR2⟩ := hR2
  refine g_wid (k' := cp d - cp d) (n' := 2 * (cp d - cp d)) (by omega) (by omega) ?_
  refine g_sipush h (pc := 7) (v := 1000) dX3_wantOf_7 (by decide) ?_
  refine g_aload_n h (pc := 10) dX3_wantOf_10 0 rfl ?_
  refine g_get h (pc := 11) dX3_wantOf_11 iX3_wantOf_3 0 rfl rfl 2 (by decide) fX3_wantOf_25 rfl ?_
  refine g_iload_n h (pc := 14) dX3_wantOf_14 1 rfl ?_
  refine g_aald h (pc := 15) (v := a (23 + s)) dX3_wantOf_15 22 rfl (vp_in_nI (by omega) (by omega)) (by rw [nI_clamp (by omega)]) ?_
  refine g_iload_n h (pc := 16) dX3_wantOf_16 2 rfl ?_
  refine g_iald h (pc := 17) (v := d.1 7 s k) dX3_wantOf_17 (23 + s) (cw_g cI cO a u2 Z d (by omega)) (vp_in_nI (by omega) (by omega)) (by rw [nI_clamp (by omega)]) ?_
  refine g_imul h (pc := 18) dX3_wantOf_18  ?_
  refine g_isub h (pc := 19) dX3_wantOf_19  ?_
  refine g_max h (pc := 20) dX3_wantOf_20 mX3_wantOf_1 mX3_wantOf_2 mX3_wantOf_3 mX3_wantOf_4 (Nat.le_of_ble_eq_true rfl) (Nat.le_of_ble_eq_true rfl) (Nat.le_refl _) (Nat.le_refl _) ?_
  exact hret _ u2 dX3_wantOf_23 rfl ⟨rfl, hR2⟩ rfl (Nat.le_refl _) (Nat.le_refl _)

theorem iX3_pipe_3 : ∀ w ∈ wsX30, w ∈ wsX3_pipe := by decide +kernel
theorem fX3_pipe_28 : Cond.fieldLink RX3 28 "SpareShelves" "rates" "[[I" ∈ wsX3_pipe := by decide +kernel
set_option maxHeartbeats 4000000 in
set_option maxRecDepth 100000 in
theorem c_pipe (l : Launch) (D : va_G) (cI cO : ClassId) (a : Nat → Nat) (u : UX) (Z : Sg) (d : Dy) (hRC : RC d u) (ns nk : Nat) (hz : Zv ns nk Z) (x y wh : Int32) : CIc l yX3_pipe wsX3_pipe 3 80 D cI cO a u Z d [.int x, .int y, .int wh] (pipeP ns nk Z d x y wh) Z d := by
  unfold CIc
  refine CI.of (cc := cX3_pipe) (maxL := 4) (rt := .int) (by decide) rfl (Nat.le_of_ble_eq_true rfl) ?_
  intro C hgL hgD hw h hret
  have hn8 := hz.n8
  have hk8 := hz.k8
  cases hp : (isIn x ns && isIn y nk) with
  | false =>
    refine g_aload_n h (pc := 0) dX3_pipe_0 0 rfl ?_
    refine g_iload_n h (pc := 1) dX3_pipe_1 1 rfl ?_
    refine g_iload_n h (pc := 2) dX3_pipe_2 2 rfl ?_
    refine g_callR h (pc := 3) (As := [.int x, .int y]) (st := []) dX3_pipe_3 (c_noplace (gL C) (gD C) cI cO a u Z d hRC ns nk hz x y) [0, 1, 2, 3, 4, 5, 6, 7, 8, 9, 10, 11, 12, 13, 14, 15, 16, 17, 18, 19, 20, 21, 22, 23, 24, 25, 26, 27, 28, 29, 30, 31, 32, 33, 34, 35, 36, 37, 38, 39, 40, 41, 42, 43, 44, 45] rfl (by decide) gX3_pipe_X3_isNoPlace rfl (q0 := 0) rfl rfl (show nPar yX3_isNoPlace RX3 2 = true by decide +kernel) ⟨Nat.le_of_ble_eq_true rfl, Nat.le_of_ble_eq_true rfl⟩ rfl (Nat.le_of_ble_eq_true rfl) ⟨Nat.zero_le _, Nat.zero_le _⟩ (fun r hr => ?_)
    subst hr
    rw [hp]
    refine g_topi (y := 1) rfl ?_
    refine g_if_eq_f h (pc := 6) (tgt := 11) dX3_pipe_6 (by decide) (by decide) ?_
    refine g_iconst h (pc := 9) (v := (-1)) dX3_pipe_9 (by decide) ?_
    exact hret _ u dX3_pipe_10 rfl ⟨by unfold pipeP; rw [if_pos hp], hRC⟩ rfl (Nat.zero_le _) (Nat.zero_le _)
  | true =>
    refine g_aload_n h (pc := 0) dX3_pipe_0 0 rfl ?_
    refine g_iload_n h (pc := 1) dX3_pipe_1 1 rfl ?_
    refine g_iload_n h (pc := 2) dX3_pipe_2 2 rfl ?_
    refine g_callR h (pc := 3) (As := [.int x, .int y]) (st := []) dX3_pipe_3 (c_noplace (gL C) (gD C) cI cO a u Z d hRC ns nk hz x y) [0, 1, 2, 3, 4, 5, 6, 7, 8, 9, 10, 11, 12, 13, 14, 15, 16, 17, 18, 19, 20, 21, 22, 23, 24, 25, 26, 27, 28, 29, 30, 31, 32, 33, 34, 35, 36, 37, 38, 39, 40, 41, 42, 43, 44, 45] rfl (by decide) gX3_pipe_X3_isNoPlace rfl (q0 := 0) rfl rfl (show nPar yX3_isNoPlace RX3 2 = true by decide +kernel) ⟨Nat.le_of_ble_eq_true rfl, Nat.le_of_ble_eq_true rfl⟩ rfl (Nat.le_of_ble_eq_true rfl) ⟨Nat.zero_le _, Nat.zero_le _⟩ (fun r hr => ?_)
    subst hr
    rw [hp]
    refine g_topi (y := 0) rfl ?_
    refine g_if_eq_t h (pc := 6) (tgt := 11) dX3_pipe_6 (by decide) rfl ?_
    have hpp := Bool.and_eq_true_iff.mp hp
    obtain ⟨s, hs, rfl⟩ := isIn_of (by omega) hpp.1
    obtain ⟨k, hk, rfl⟩ := isIn_of (by omega) hpp.2
    have ts : tN (nI s) = s := nI_clamp (by omega)
    have tk : tN (nI k) = k := nI_clamp (by omega)
    refine g_iload_n h (pc := 11) dX3_pipe_11 3 rfl ?_
    have e0 : ∀ q, pipeP ns nk Z d (nI s) (nI k) q = sw q [flowF Z ns k s, pipeF Z ns k s, wantF Z d ns k s, Z 8 s k] := by
      intro q
      unfold pipeP
      rw [hp, if_neg (by decide), ts, tk]
    cases hsw : isIn wh 4 with
    | false =>
      refine g_tblOut h (pc := 12) (tgt := 74) dX3_pipe_12 (isIn_out hsw rfl) (by decide) ?_
      refine g_iconst h (pc := 74) (v := (-1)) dX3_pipe_74 (by decide) ?_
      exact hret _ u dX3_pipe_75 rfl ⟨by rw [e0]; exact (sw_out hsw).symm, hRC⟩ rfl (Nat.zero_le _) (Nat.zero_le _)
    | true =>
      obtain ⟨j9, hj9, rfl⟩ := isIn_of (by omega) hsw
      rcases (show j9 = 0 ∨ j9 = 1 ∨ j9 = 2 ∨ j9 = 3 by omega) with rfl | rfl | rfl | rfl
      · refine g_tblIn h (pc := 12) (tgt := 44) dX3_pipe_12 (by decide) (by decide) (off := 32) (by decide) (by decide) ?_
        refine g_aload_n h (pc := 44) dX3_pipe_44 0 rfl ?_
        refine g_iload_n h (pc := 45) dX3_pipe_45 1 rfl ?_
        refine g_iload_n h (pc := 46) dX3_pipe_46 2 rfl ?_
        refine g_callI h (pc := 47) (As := [.int (nI s), .int (nI k)]) (st := []) dX3_pipe_47 (c_flow (gL C) (gD C) cI cO a u Z d hRC ns nk hz s k hs hk) hw gX3_pipe_X3_flowOf rfl (q0 := 0) rfl rfl (show nPar yX3_flowOf RX3 2 = true by decide +kernel) ⟨Nat.le_of_ble_eq_true rfl, Nat.le_of_ble_eq_true rfl⟩ rfl (Nat.le_of_ble_eq_true rfl) ⟨by show 0 + (cp d - cp d) ≤ cp d - cp d; omega, by show 0 + 2 * (cp d - cp d) ≤ 2 * (cp d - cp d); omega⟩ (fun r u2 hR2 => ?_)
        obtain ⟨rfl, hR2⟩ := hR2
        refine g_wid (k' := cp d - cp d) (n' := 2 * (cp d - cp d)) (by omega) (by omega) ?_
        exact hret _ u2 dX3_pipe_50 rfl ⟨by rw [e0]; exact (sw_in (j := 0) (Nat.le_of_ble_eq_true rfl) (Nat.le_of_ble_eq_true rfl) rfl).symm, hR2⟩ rfl (Nat.le_refl _) (Nat.le_refl _)
      · refine g_tblIn h (pc := 12) (tgt := 51) dX3_pipe_12 (by decide) (by decide) (off := 39) (by decide) (by decide) ?_
        refine g_aload_n h (pc := 51) dX3_pipe_51 0 rfl ?_
        refine g_iload_n h (pc := 52) dX3_pipe_52 1 rfl ?_
        refine g_iload_n h (pc := 53) dX3_pipe_53 2 rfl ?_
        refine g_callI h (pc := 54) (As := [.int (nI s), .int (nI k)]) (st := []) dX3_pipe_54 (c_pipeOf (gL C) (gD C) cI cO a u Z d hRC ns nk hz s k hs hk) hw gX3_pipe_X3_pipeOf rfl (q0 := 0) rfl rfl (show nPar yX3_pipeOf RX3 2 = true by decide +kernel) ⟨Nat.le_of_ble_eq_true rfl, Nat.le_of_ble_eq_true rfl⟩ rfl (Nat.le_of_ble_eq_true rfl) ⟨by show 0 + (cp d - cp d) ≤ cp d - cp d; omega, by show 0 + 2 * (cp d - cp d) ≤ 2 * (cp d - cp d); omega⟩ (fun r u2 hR2 => ?_)
        obtain ⟨rfl, hR2⟩ := hR2
        refine g_wid (k' := cp d - cp d) (n' := 2 * (cp d - cp d)) (by omega) (by omega) ?_
        exact hret _ u2 dX3_pipe_57 rfl ⟨by rw [e0]; exact (sw_in (j := 1) (Nat.le_of_ble_eq_true rfl) (Nat.le_of_ble_eq_true rfl) rfl).symm, hR2⟩ rfl (Nat.le_refl _) (Nat.le_refl _)
      · refine g_tblIn h (pc := 12) (tgt := 58) dX3_pipe_12 (by decide) (by decide) (off := 46) (by decide) (by decide) ?_
        refine g_aload_n h (pc := 58) dX3_pipe_58 0 rfl ?_
        refine g_iload_n h (pc := 59) dX3_pipe_59 1 rfl ?_
        refine g_iload_n h (pc := 60) dX3_pipe_60 2 rfl ?_
        refine g_callI h (pc := 61) (As := [.int (nI s), .int (nI k)]) (st := []) dX3_pipe_61 (c_wantOf (gL C) (gD C) cI cO a u Z d hRC ns nk hz s k hs hk) hw gX3_pipe_X3_wantOf rfl (q0 := 0) rfl rfl (show nPar yX3_wantOf RX3 2 = true by decide +kernel) ⟨Nat.le_of_ble_eq_true rfl, Nat.le_of_ble_eq_true rfl⟩ rfl (Nat.le_of_ble_eq_true rfl) ⟨by show 0 + (cp d - cp d) ≤ cp d - cp d; omega, by show 0 + 2 * (cp d - cp d) ≤ 2 * (cp d - cp d); omega⟩ (fun r u2 hR2 => ?_)
        obtain ⟨rfl, hR2⟩ := hR2
        refine g_wid (k' := cp d - cp d) (n' := 2 * (cp d - cp d)) (by omega) (by omega) ?_
        exact hret _ u2 dX3_pipe_64 rfl ⟨by rw [e0]; exact (sw_in (j := 2) (Nat.le_of_ble_eq_true rfl) (Nat.le_of_ble_eq_true rfl) rfl).symm, hR2⟩ rfl (Nat.le_refl _) (Nat.le_refl _)
      · refine g_tblIn h (pc := 12) (tgt := 65) dX3_pipe_12 (by decide) (by decide) (off := 53) (by decide) (by decide) ?_
        refine g_aload_n h (pc := 65) dX3_pipe_65 0 rfl ?_
        refine g_get h (pc := 66) dX3_pipe_66 iX3_pipe_3 0 rfl rfl 3 (by decide) fX3_pipe_28 rfl ?_
        refine g_iload_n h (pc := 69) dX3_pipe_69 1 rfl ?_
        refine g_aald h (pc := 70) (v := a (32 + s)) dX3_pipe_70 31 rfl (vp_in_nI (by omega) (by omega)) (by rw [nI_clamp (by omega)]) ?_
        refine g_iload_n h (pc := 71) dX3_pipe_71 2 rfl ?_
        refine g_iald h (pc := 72) (v := Z 8 s k) dX3_pipe_72 (32 + s) (cw_r cI cO a u Z d (by omega)) (vp_in_nI (by omega) (by omega)) (by rw [nI_clamp (by omega)]) ?_
        exact hret _ u dX3_pipe_73 rfl ⟨by rw [e0]; exact (sw_in (j := 3) (Nat.le_of_ble_eq_true rfl) (Nat.le_of_ble_eq_true rfl) rfl).symm, hRC⟩ rfl (Nat.zero_le _) (Nat.zero_le _)

theorem iX3_choose_3 : ∀ w ∈ wsX30, w ∈ wsX3_choose := by decide +kernel
theorem fX3_choose_10 : Cond.fieldLink RX3 10 "SpareShelves" "kinds" "LSpareShelves$Kinds;" ∈ wsX3_choose := by decide +kernel
theorem iX3_choose_0 : ∀ w ∈ wsX00, w ∈ wsX3_choose := by decide +kernel
theorem fX3_choose_91 : Cond.fieldLink RX3 91 "SpareShelves$Kinds" "bought" "[I" ∈ wsX3_choose := by decide +kernel
theorem fX3_choose_19 : Cond.fieldLink RX3 19 "SpareShelves" "tree" "LSpareShelves$Tree;" ∈ wsX3_choose := by decide +kernel
theorem iX3_choose_2 : ∀ w ∈ wsX20, w ∈ wsX3_choose := by decide +kernel
theorem fX3_choose_76 : Cond.fieldLink RX3 76 "SpareShelves$Tree" "size" "I" ∈ wsX3_choose := by decide +kernel
theorem fX3_choose_60 : Cond.fieldLink RX3 60 "SpareShelves$Kinds" "size" "I" ∈ wsX3_choose := by decide +kernel
theorem fX3_choose_63 : Cond.fieldLink RX3 63 "SpareShelves$Kinds" "price" "[I" ∈ wsX3_choose := by decide +kernel
set_option maxHeartbeats 4000000 in
set_option maxRecDepth 100000 in
def bS (b : Option (Nat × Nat)) : Int32 := match b with
  | none => -1
  | some q => nI q.1
def bK (b : Option (Nat × Nat)) : Int32 := match b with
  | none => -1
  | some q => nI q.2
theorem lg_le {x y : Int64} : lg_cmp x y ≤ 0 ↔ ¬ y < x := by
  unfold lg_cmp
  by_cases h1 : x < y
  · have h2 : ¬ y < x := Int64.not_lt.mpr (Int64.le_of_lt h1)
    simp [h1, h2]
    split <;> decide
  · by_cases h2 : y < x
    · simp [h1, h2]
    · simp [h1, h2]
      split <;> decide
set_option maxHeartbeats 800000 in
set_option maxRecDepth 100000 in
theorem c_choose (l : Launch) (D : va_G) (cI cO : ClassId) (a : Nat → Nat) (u : UX) (Z : Sg) (d : Dy) (hRC : RC d u) (ns nk : Nat) (hz : Zv ns nk Z) (t : Nat) (hzx : Zx ns nk t Z) (hd : Dv ns nk Z (t + 1) d) (hph : Ph d ≤ 20000) : CIc l yX3_choose wsX3_choose 7 250 D cI cO a u Z d [] (chooseP ns nk Z d).1 (chooseP ns nk Z d).2.1 (chooseP ns nk Z d).2.2 := by
  unfold CIc
  refine CI.of (cc := cX3_choose) (maxL := 13) (rt := .int) (by decide) rfl (Nat.le_of_ble_eq_true rfl) ?_
  intro C hgL hgD hw h hret
  have hn8 := hz.n8
  have hk8 := hz.k8
  have hcp : cp d ≤ cp (chooseP ns nk Z d).2.2 := by
    unfold chooseP
    split
    · exact Nat.le_refl _
    · split
      · exact Nat.le_refl _
      · exact cpl_lands Z (inc d 9 _) _ _
  refine g_iconst h (pc := 0) (v := (-1)) dX3_choose_0 (by decide) ?_
  refine g_istore_n h (pc := 1) dX3_choose_1 (by decide) rfl ?_
  refine g_iconst h (pc := 2) (v := (-1)) dX3_choose_2 (by decide) ?_
  refine g_istore_n h (pc := 3) dX3_choose_3 (by decide) rfl ?_
  refine g_lconst h (pc := 4) (v := 0) dX3_choose_4 (by decide) ?_
  refine g_lstore_n h (pc := 5) dX3_choose_5 (by decide) rfl ?_
  refine g_lconst h (pc := 6) (v := 1) dX3_choose_6 (by decide) ?_
  refine g_lstore h (pc := 7) dX3_choose_7 (by decide) rfl ?_
  refine g_iconst h (pc := 9) (v := 0) dX3_choose_9 (by decide) ?_
  refine g_istore h (pc := 10) dX3_choose_10 (by decide) rfl ?_
  have fin : ∀ (u2 : UX), RC d u2 → ∀ lv, lv_pick lv [0, 1, 2] = [(0, .ref (a 0)), (1, .int (bS (chS Z d ns nk ns))), (2, .int (bK (chS Z d ns nk ns)))] → GG C 13 (cw cI cO a u2 Z d) 0 0 101 lv [] := by
    intro u2 hR2 lv hlv
    refine g_lvp [0, 1, 2] hlv ?_
    cases hb : chS Z d ns nk ns with
    | none =>
      have e1 : (chooseP ns nk Z d) = (-1, Z, d) := by unfold chooseP; rw [hb]
      rw [e1] at hret
      refine g_aload_n h (pc := 101) dX3_choose_101 0 rfl ?_
      refine g_iload_n h (pc := 102) dX3_choose_102 1 rfl ?_
      refine g_iload_n h (pc := 103) dX3_choose_103 2 rfl ?_
      refine g_callR h (pc := 104) (As := [.int (-1), .int (-1)]) (st := []) dX3_choose_104 (c_noplace (gL C) (gD C) cI cO a u2 Z d hR2 ns nk hz (-1) (-1)) [0, 1, 2, 3, 4, 5, 6, 7, 8, 9, 10, 11, 12, 13, 14, 15, 16, 17, 18, 19, 20, 21, 22, 23, 24, 25, 26, 27, 28, 29, 30, 31, 32, 33, 34, 35, 36, 37, 38, 39, 40, 41, 42, 43, 44, 45] rfl (by decide) gX3_choose_X3_isNoPlace rfl (q0 := 0) rfl rfl (show nPar yX3_isNoPlace RX3 2 = true by decide +kernel) ⟨Nat.le_of_ble_eq_true rfl, Nat.le_of_ble_eq_true rfl⟩ rfl (Nat.le_of_ble_eq_true rfl) ⟨Nat.zero_le _, Nat.zero_le _⟩ (fun r hr => ?_)
      subst hr
      rw [show (isIn (-1) ns && isIn (-1) nk) = false by rw [isIn_f1 (by decide)]; rfl]
      refine g_topi (y := 1) rfl ?_
      refine g_if_eq_f h (pc := 107) (tgt := 112) dX3_choose_107 (by decide) (by decide) ?_
      refine g_iconst h (pc := 110) (v := (-1)) dX3_choose_110 (by decide) ?_
      exact hret _ u2 dX3_choose_111 rfl ⟨rfl, hR2⟩ rfl (Nat.zero_le _) (Nat.zero_le _)
    | some q =>
      obtain ⟨s, k⟩ := q
      obtain ⟨hs, hk⟩ := chS_in ns (Nat.le_refl _) (s, k) hb
      replace hs : s < ns := hs
      replace hk : k < nk := hk
      show GG C 13 (cw cI cO a u2 Z d) 0 0 101 [(0, .ref (a 0)), (1, .int (nI s)), (2, .int (nI k))] []
      refine g_aload_n h (pc := 101) dX3_choose_101 0 rfl ?_
      refine g_iload_n h (pc := 102) dX3_choose_102 1 rfl ?_
      refine g_iload_n h (pc := 103) dX3_choose_103 2 rfl ?_
      refine g_callR h (pc := 104) (As := [.int (nI s), .int (nI k)]) (st := []) dX3_choose_104 (c_noplace (gL C) (gD C) cI cO a u2 Z d hR2 ns nk hz (nI s) (nI k)) [0, 1, 2, 3, 4, 5, 6, 7, 8, 9, 10, 11, 12, 13, 14, 15, 16, 17, 18, 19, 20, 21, 22, 23, 24, 25, 26, 27, 28, 29, 30, 31, 32, 33, 34, 35, 36, 37, 38, 39, 40, 41, 42, 43, 44, 45] rfl (by decide) gX3_choose_X3_isNoPlace rfl (q0 := 0) rfl rfl (show nPar yX3_isNoPlace RX3 2 = true by decide +kernel) ⟨Nat.le_of_ble_eq_true rfl, Nat.le_of_ble_eq_true rfl⟩ rfl (Nat.le_of_ble_eq_true rfl) ⟨Nat.zero_le _, Nat.zero_le _⟩ (fun r hr => ?_)
      subst hr
      rw [show (isIn (nI s) ns && isIn (nI k) nk) = true by rw [isIn_nI hs (by omega), isIn_nI hk (by omega)]; rfl]
      refine g_topi (y := 0) rfl ?_
      refine g_if_eq_t h (pc := 107) (tgt := 112) dX3_choose_107 (by decide) rfl ?_
      refine g_aload_n h (pc := 112) dX3_choose_112 0 rfl ?_
      refine g_get h (pc := 113) dX3_choose_113 iX3_choose_3 0 rfl rfl 0 (by decide) fX3_choose_10 rfl ?_
      refine g_get h (pc := 116) dX3_choose_116 iX3_choose_0 1 rfl rfl 3 (by decide) fX3_choose_91 rfl ?_
      refine g_iload_n h (pc := 119) dX3_choose_119 2 rfl ?_
      refine g_iald h (pc := 120) (v := d.1 9 0 k) dX3_choose_120 5 rfl (vp_in_nI (by omega) (by omega)) (by rw [nI_clamp (by omega)]) ?_
      refine g_sipush h (pc := 121) (v := 200) dX3_choose_121 (by decide) ?_
      by_cases h2 : 200 ≤ d.1 9 0 k
      · have e1 : (chooseP ns nk Z d) = (-4, Z, d) := by unfold chooseP; rw [hb]; exact if_pos h2
        rw [e1] at hret
        refine g_icmp_lt_f h (pc := 124) (tgt := 130) dX3_choose_124 (by decide) (Int32.not_lt.mpr h2) ?_
        refine g_bipush h (pc := 127) (v := (-4)) dX3_choose_127 (by decide) ?_
        exact hret _ u2 dX3_choose_129 rfl ⟨rfl, hR2⟩ rfl (Nat.zero_le _) (Nat.zero_le _)
      · have e1 : (chooseP ns nk Z d) = (nI (8 * s + k), Z, lands Z (inc d 9 k) s k) := by unfold chooseP; rw [hb]; exact if_neg h2
        have ef : cp (chooseP ns nk Z d).2.2 = cp (lands Z (inc d 9 k) s k) := by rw [e1]
        have e5 : cp (inc d 9 k) = cp d := rfl
        have e6 : sz (inc d 9 k) = sz d := rfl
        have e7 := Ph_sz d
        rw [e1] at hret
        refine g_icmp_lt_t h (pc := 124) (tgt := 130) dX3_choose_124 (by decide) (Int32.not_le.mp h2) ?_
        refine g_aload_n h (pc := 130) dX3_choose_130 0 rfl ?_
        refine g_get h (pc := 131) dX3_choose_131 iX3_choose_3 0 rfl rfl 0 (by decide) fX3_choose_10 rfl ?_
        refine g_get h (pc := 134) dX3_choose_134 iX3_choose_0 1 rfl rfl 3 (by decide) fX3_choose_91 rfl ?_
        refine g_iload_n h (pc := 137) dX3_choose_137 2 rfl ?_
        refine g_dup2 h (pc := 138) dX3_choose_138 rfl rfl ?_
        refine g_iald h (pc := 139) (v := d.1 9 0 k) dX3_choose_139 5 rfl (vp_in_nI (by omega) (by omega)) (by rw [nI_clamp (by omega)]) ?_
        refine g_iconst h (pc := 140) (v := 1) dX3_choose_140 (by decide) ?_
        refine g_iadd h (pc := 141) dX3_choose_141  ?_
        refine g_iast h hw (pc := 142) (ws' := cw cI cO a u2 Z (inc d 9 k)) dX3_choose_142 5 rfl (vp_in_nI (by omega) (by omega)) (by rw [nI_clamp (by omega)]; rfl) ?_
        refine g_aload_n h (pc := 143) dX3_choose_143 0 rfl ?_
        refine g_iload_n h (pc := 144) dX3_choose_144 1 rfl ?_
        refine g_iload_n h (pc := 145) dX3_choose_145 2 rfl ?_
        refine g_callV h (pc := 146) (As := [.int (nI s), .int (nI k)]) (st := []) dX3_choose_146 (c_lands (gL C) (gD C) cI cO a u2 Z (inc d 9 k) hR2 ns nk hz (by omega) hd.1 s k hs hk) hw gX3_choose_X3_lands rfl (q0 := 0) rfl rfl (show nPar yX3_lands RX3 2 = true by decide +kernel) ⟨Nat.le_of_ble_eq_true rfl, Nat.le_of_ble_eq_true rfl⟩ rfl (Nat.le_of_ble_eq_true rfl) ⟨by show _ ≤ cp (chooseP ns nk Z d).2.2 - cp d; omega, by show _ ≤ 2 * (cp (chooseP ns nk Z d).2.2 - cp d); omega⟩ (fun u3 hR3 => ?_)
        refine g_bipush h (pc := 149) (v := 8) dX3_choose_149 (by decide) ?_
        refine g_iload_n h (pc := 151) dX3_choose_151 1 rfl ?_
        refine g_imul h (pc := 152) dX3_choose_152  ?_
        refine g_topi (y := nI (8 * s)) (by rw [show (8 : Int32) = nI 8 from rfl, pk_mul]) ?_
        refine g_iload_n h (pc := 153) dX3_choose_153 2 rfl ?_
        refine g_iadd h (pc := 154) dX3_choose_154  ?_
        refine g_topi (nI_add _ _) ?_
        exact hret _ u3 dX3_choose_155 rfl ⟨rfl, hR3⟩ rfl (by show _ ≤ cp (lands Z (inc d 9 k) s k) - cp d; omega) (by show _ ≤ 2 * (cp (lands Z (inc d 9 k) s k) - cp d); omega)
  suffices loop : ∀ (m i : Nat) (u2 : UX), i + m = ns → RC d u2 → GG C 13 (cw cI cO a u2 Z d) 0 0 12 [(0, .ref (a 0)), (1, .int (bS (chS Z d ns nk i))), (2, .int (bK (chS Z d ns nk i))), (3, .long (bW Z d ns (chS Z d ns nk i))), (5, .long (bP Z (chS Z d ns nk i))), (7, .int (nI i))] [] from loop ns 0 u (by omega) hRC
  intro m
  induction m with
  | zero =>
    intro i u2 h1 hR2
    refine g_iload h (pc := 12) dX3_choose_12 5 rfl ?_
    refine g_aload_n h (pc := 14) dX3_choose_14 0 rfl ?_
    refine g_get h (pc := 15) dX3_choose_15 iX3_choose_3 0 rfl rfl 1 (by decide) fX3_choose_19 rfl ?_
    refine g_get h (pc := 18) dX3_choose_18 iX3_choose_2 10 rfl rfl 3 (by decide) fX3_choose_76 rfl ?_
    refine g_topi hz.ns ?_
    refine g_icmp_ge_t h (pc := 21) (tgt := 101) dX3_choose_21 (by decide) (nI_le (by omega) (by omega)) ?_
    rw [show i = ns by omega]
    exact fin u2 hR2 _ rfl
  | succ m ih =>
    intro i u2 h1 hR2
    refine g_iload h (pc := 12) dX3_choose_12 5 rfl ?_
    refine g_aload_n h (pc := 14) dX3_choose_14 0 rfl ?_
    refine g_get h (pc := 15) dX3_choose_15 iX3_choose_3 0 rfl rfl 1 (by decide) fX3_choose_19 rfl ?_
    refine g_get h (pc := 18) dX3_choose_18 iX3_choose_2 10 rfl rfl 3 (by decide) fX3_choose_76 rfl ?_
    refine g_topi hz.ns ?_
    refine g_icmp_ge_f h (pc := 21) (tgt := 101) dX3_choose_21 (by decide) (nI_ge (by omega) (by omega)) ?_
    refine g_iconst h (pc := 24) (v := 0) dX3_choose_24 (by decide) ?_
    refine g_istore h (pc := 25) dX3_choose_25 (by decide) rfl ?_
    suffices inner : ∀ (m2 j : Nat) (u3 : UX), j + m2 = nk → RC d u3 → GG C 13 (cw cI cO a u3 Z d) 0 0 27 [(0, .ref (a 0)), (1, .int (bS (chK Z d ns i j (chS Z d ns nk i)))), (2, .int (bK (chK Z d ns i j (chS Z d ns nk i)))), (3, .long (bW Z d ns (chK Z d ns i j (chS Z d ns nk i)))), (5, .long (bP Z (chK Z d ns i j (chS Z d ns nk i)))), (7, .int (nI i)), (8, .int (nI j))] [] from inner nk 0 u2 (by omega) hR2
    intro m2
    induction m2 with
    | zero =>
      intro j u3 h3 hR3
      refine g_iload h (pc := 27) dX3_choose_27 6 rfl ?_
      refine g_aload_n h (pc := 29) dX3_choose_29 0 rfl ?_
      refine g_get h (pc := 30) dX3_choose_30 iX3_choose_3 0 rfl rfl 0 (by decide) fX3_choose_10 rfl ?_
      refine g_get h (pc := 33) dX3_choose_33 iX3_choose_0 1 rfl rfl 8 (by decide) fX3_choose_60 rfl ?_
      refine g_topi hz.nk ?_
      refine g_icmp_ge_t h (pc := 36) (tgt := 95) dX3_choose_36 (by decide) (nI_le (by omega) (by omega)) ?_
      have h9 := ih (i + 1) u3 (by omega) hR3
      rw [chS] at h9
      rw [show j = nk by omega]
      refine g_iinc h (pc := 95) dX3_choose_95 5 rfl (nI_1 i) (by decide) rfl ?_
      refine g_goto h (pc := 98) (tgt := 12) dX3_choose_98 (by decide) ?_
      refine g_lvp [0, 1, 2, 3, 4, 5] rfl ?_
      exact h9
    | succ m2 ih2 =>
      intro j u3 h3 hR3
      refine g_iload h (pc := 27) dX3_choose_27 6 rfl ?_
      refine g_aload_n h (pc := 29) dX3_choose_29 0 rfl ?_
      refine g_get h (pc := 30) dX3_choose_30 iX3_choose_3 0 rfl rfl 0 (by decide) fX3_choose_10 rfl ?_
      refine g_get h (pc := 33) dX3_choose_33 iX3_choose_0 1 rfl rfl 8 (by decide) fX3_choose_60 rfl ?_
      refine g_topi hz.nk ?_
      refine g_icmp_ge_f h (pc := 36) (tgt := 95) dX3_choose_36 (by decide) (nI_ge (by omega) (by omega)) ?_
      refine g_aload_n h (pc := 39) dX3_choose_39 0 rfl ?_
      refine g_iload h (pc := 40) dX3_choose_40 5 rfl ?_
      refine g_iload h (pc := 42) dX3_choose_42 6 rfl ?_
      refine g_callI h (pc := 44) (As := [.int (nI i), .int (nI j)]) (st := []) dX3_choose_44 (c_wantOf (gL C) (gD C) cI cO a u3 Z d hR3 ns nk hz i j (by omega) (by omega)) hw gX3_choose_X3_wantOf rfl (q0 := 0) rfl rfl (show nPar yX3_wantOf RX3 2 = true by decide +kernel) ⟨Nat.le_of_ble_eq_true rfl, Nat.le_of_ble_eq_true rfl⟩ rfl (Nat.le_of_ble_eq_true rfl) ⟨by show 0 + (cp d - cp d) ≤ _; omega, by show 0 + 2 * (cp d - cp d) ≤ _; omega⟩ (fun r u4 hR4 => ?_)
      obtain ⟨rfl, hR4⟩ := hR4
      refine g_wid (k' := 0) (n' := 0) (by omega) (by omega) ?_
      have h9 := fun u5 h => ih2 (j + 1) u5 (by omega) h
      rw [chK] at h9
      generalize hB : (chK Z d ns i j (chS Z d ns nk i)) = B at h9 ⊢
      refine g_i2l h (pc := 47) dX3_choose_47  ?_
      refine g_lstore h (pc := 48) dX3_choose_48 (by decide) rfl ?_
      refine g_lv (lv' := [(0, .ref (a 0)), (1, .int (bS B)), (2, .int (bK B)), (3, .long (bW Z d ns B)), (5, .long (bP Z B)), (7, .int (nI i)), (8, .int (nI j)), (9, .long (wantF Z d ns j i).toInt64)]) rfl ?_
      refine g_aload_n h (pc := 50) dX3_choose_50 0 rfl ?_
      refine g_get h (pc := 51) dX3_choose_51 iX3_choose_3 0 rfl rfl 0 (by decide) fX3_choose_10 rfl ?_
      refine g_get h (pc := 54) dX3_choose_54 iX3_choose_0 1 rfl rfl 0 (by decide) fX3_choose_63 rfl ?_
      refine g_iload h (pc := 57) dX3_choose_57 6 rfl ?_
      refine g_iald h (pc := 59) (v := Z 0 0 j) dX3_choose_59 2 rfl (vp_in_nI (by omega) (by omega)) (by rw [nI_clamp (by omega)]) ?_
      refine g_i2l h (pc := 60) dX3_choose_60  ?_
      refine g_lstore h (pc := 61) dX3_choose_61 (by decide) rfl ?_
      refine g_lv (lv' := [(0, .ref (a 0)), (1, .int (bS B)), (2, .int (bK B)), (3, .long (bW Z d ns B)), (5, .long (bP Z B)), (7, .int (nI i)), (8, .int (nI j)), (9, .long (wantF Z d ns j i).toInt64), (11, .long (Z 0 0 j).toInt64)]) rfl ?_
      refine g_lload h (pc := 63) dX3_choose_63 7 rfl ?_
      refine g_lload h (pc := 65) dX3_choose_65 4 rfl ?_
      refine g_lmul h (pc := 67) dX3_choose_67  ?_
      refine g_lload_n h (pc := 68) dX3_choose_68 3 rfl ?_
      refine g_lload h (pc := 69) dX3_choose_69 8 rfl ?_
      refine g_lmul h (pc := 71) dX3_choose_71  ?_
      refine g_lcmp h (pc := 72) dX3_choose_72  ?_
      refine g_if_le h (pc := 73) (tgt := 89) dX3_choose_73 (by decide) (fun c7 => ?_) (fun c7 => ?_)
      · have e9 : chs Z d ns B i j = B := if_neg (lg_le.mp c7)
        rw [e9] at h9
        refine g_iinc h (pc := 89) dX3_choose_89 6 rfl (nI_1 j) (by decide) rfl ?_
        refine g_goto h (pc := 92) (tgt := 27) dX3_choose_92 (by decide) ?_
        refine g_lvp [0, 1, 2, 3, 4, 5, 6] rfl ?_
        exact h9 u4 hR4
      · have e9 : chs Z d ns B i j = some (i, j) := if_pos (Classical.not_not.mp (fun q => c7 (lg_le.mpr q)))
        rw [e9] at h9
        dsimp only [bS, bK, bW, bP] at h9
        refine g_iload h (pc := 76) dX3_choose_76 5 rfl ?_
        refine g_istore_n h (pc := 78) dX3_choose_78 (by decide) rfl ?_
        refine g_lv (lv' := [(0, .ref (a 0)), (1, .int (nI i)), (2, .int (bK B)), (3, .long (bW Z d ns B)), (5, .long (bP Z B)), (7, .int (nI i)), (8, .int (nI j)), (9, .long (wantF Z d ns j i).toInt64), (11, .long (Z 0 0 j).toInt64)]) rfl ?_
        refine g_iload h (pc := 79) dX3_choose_79 6 rfl ?_
        refine g_istore_n h (pc := 81) dX3_choose_81 (by decide) rfl ?_
        refine g_lv (lv' := [(0, .ref (a 0)), (1, .int (nI i)), (2, .int (nI j)), (3, .long (bW Z d ns B)), (5, .long (bP Z B)), (7, .int (nI i)), (8, .int (nI j)), (9, .long (wantF Z d ns j i).toInt64), (11, .long (Z 0 0 j).toInt64)]) rfl ?_
        refine g_lload h (pc := 82) dX3_choose_82 7 rfl ?_
        refine g_lstore_n h (pc := 84) dX3_choose_84 (by decide) rfl ?_
        refine g_lv (lv' := [(0, .ref (a 0)), (1, .int (nI i)), (2, .int (nI j)), (3, .long (wantF Z d ns j i).toInt64), (5, .long (bP Z B)), (7, .int (nI i)), (8, .int (nI j)), (9, .long (wantF Z d ns j i).toInt64), (11, .long (Z 0 0 j).toInt64)]) rfl ?_
        refine g_lload h (pc := 85) dX3_choose_85 8 rfl ?_
        refine g_lstore h (pc := 87) dX3_choose_87 (by decide) rfl ?_
        refine g_lv (lv' := [(0, .ref (a 0)), (1, .int (nI i)), (2, .int (nI j)), (3, .long (wantF Z d ns j i).toInt64), (5, .long (Z 0 0 j).toInt64), (7, .int (nI i)), (8, .int (nI j)), (9, .long (wantF Z d ns j i).toInt64), (11, .long (Z 0 0 j).toInt64)]) rfl ?_
        refine g_iinc h (pc := 89) dX3_choose_89 6 rfl (nI_1 j) (by decide) rfl ?_
        refine g_lv (lv' := [(0, .ref (a 0)), (1, .int (nI i)), (2, .int (nI j)), (3, .long (wantF Z d ns j i).toInt64), (5, .long (Z 0 0 j).toInt64), (7, .int (nI i)), (8, .int (nI (j + 1))), (9, .long (wantF Z d ns j i).toInt64), (11, .long (Z 0 0 j).toInt64)]) rfl ?_
        refine g_goto h (pc := 92) (tgt := 27) dX3_choose_92 (by decide) ?_
        refine g_lvp [0, 1, 2, 3, 4, 5, 6] rfl ?_
        exact h9 u4 hR4
