theorem iX4_flow_4 : ∀ w ∈ wsX40, w ∈ wsX4_flow := by decide +kernel
theorem fX4_flow_41 : Cond.fieldLink RX4 41 "SpareShelvesModel" "rates" "[I" ∈ wsX4_flow := by decide +kernel
theorem fX4_flow_23 : Cond.fieldLink RX4 23 "SpareShelvesModel" "shelves" "I" ∈ wsX4_flow := by decide +kernel
theorem fX4_flow_26 : Cond.fieldLink RX4 26 "SpareShelvesModel" "up" "[I" ∈ wsX4_flow := by decide +kernel
theorem fX4_flow_35 : Cond.fieldLink RX4 35 "SpareShelvesModel" "mends" "[I" ∈ wsX4_flow := by decide +kernel
set_option maxHeartbeats 4000000 in
set_option maxRecDepth 100000 in
theorem m_flow (l : Launch) (D : va_G) (cI cO : ClassId) (a : Nat → Nat) (v : MX) (Z : Sg) (d : Dy) (hRM : RM d v) (ns nk : Nat) (hz : Zv ns nk Z) (k : Nat) (hk : k < nk) : ∀ (n s : Nat), s < ns → ns - s ≤ n → CRm l yX4_flow wsX4_flow n (30 * n) D cI cO a v Z d [.int (nI s), .int (nI k)] (flowF Z ns k s) := by
  intro n
  induction n with
  | zero =>
    intro s h1 h2
    exact absurd h2 (by omega)
  | succ n ih =>
    intro s hs hns
    unfold CRm
    refine CR.of (cc := cX4_flow) (maxL := 5) (rt := .int) (by decide) rfl (Nat.le_of_ble_eq_true rfl) ?_
    intro C hgL hgD h hret
    subst hgL
    subst hgD
    have hn8 := hz.n8
    have hk8 := hz.k8
    refine g_aload_n h (pc := 0) dX4_flow_0 0 rfl ?_
    refine g_get h (pc := 1) dX4_flow_1 iX4_flow_4 0 rfl rfl 11 (by decide) fX4_flow_41 rfl ?_
    refine g_bipush h (pc := 4) (v := 8) dX4_flow_4 (by decide) ?_
    refine g_iload_n h (pc := 6) dX4_flow_6 1 rfl ?_
    refine g_imul h (pc := 7) dX4_flow_7  ?_
    refine g_iload_n h (pc := 8) dX4_flow_8 2 rfl ?_
    refine g_iadd h (pc := 9) dX4_flow_9  ?_
    refine g_topi (nI_83 s k) ?_
    refine g_iald h (pc := 10) (v := Z 8 s k) dX4_flow_10 9 rfl (vp_in_nI (by omega) (by omega)) (by rw [nI_clamp (by omega)]; exact fl2_at _ (by omega)) ?_
    refine g_istore_n h (pc := 11) dX4_flow_11 (by decide) rfl ?_
    refine g_iload_n h (pc := 12) dX4_flow_12 1 rfl ?_
    refine g_iconst h (pc := 13) (v := 1) dX4_flow_13 (by decide) ?_
    refine g_iadd h (pc := 14) dX4_flow_14  ?_
    refine g_topi (nI_1 s) ?_
    refine g_istore h (pc := 15) dX4_flow_15 (by decide) rfl ?_
    have key : (∀ (m i : Nat), i + m = ns - 1 - s → GG C 5 (mwd cI a v Z d) 0 0 17 [(0, .ref (a 0)), (1, .int (nI s)), (2, .int (nI k)), (3, .int (Z 8 s k + sumI (fun i => hnd Z k s (s + 1 + i) (flowF Z ns k (s + 1 + i))) i)), (4, .int (nI (s + 1 + i)))] []) → GG C 5 (mwd cI a v Z d) 0 0 17 [(0, .ref (a 0)), (1, .int (nI s)), (2, .int (nI k)), (3, .int (Z 8 s k)), (4, .int (nI (s + 1)))] [] := fun loop => by
      have h7 := loop (ns - 1 - s) 0 (by omega)
      rw [sumI, Int32.add_zero] at h7
      exact h7
    refine key ?_
    intro m
    induction m with
    | zero =>
      intro i h1
      refine g_iload h (pc := 17) dX4_flow_17 4 rfl ?_
      refine g_aload_n h (pc := 19) dX4_flow_19 0 rfl ?_
      refine g_get h (pc := 20) dX4_flow_20 iX4_flow_4 0 rfl rfl 5 (by decide) fX4_flow_23 rfl ?_
      refine g_topi hz.ns ?_
      refine g_icmp_ge_t h (pc := 23) (tgt := 72) dX4_flow_23 (by decide) (nI_le (by omega) (by omega)) ?_
      refine g_iload_n h (pc := 72) dX4_flow_72 3 rfl ?_
      exact hret _ dX4_flow_73 rfl (by rw [flowF_eq Z hz.n8, show i = ns - 1 - s by omega])
    | succ m ih2 =>
      intro i h1
      have hup := hz.up (x := (s + 1 + i)) (by omega) (by omega)
      have h9 := ih2 (i + 1) (by omega)
      rw [sumI, ← Int32.add_assoc] at h9
      generalize (Z 8 s k + sumI (fun i => hnd Z k s (s + 1 + i) (flowF Z ns k (s + 1 + i))) i) = acc at h9 ⊢
      refine g_iload h (pc := 17) dX4_flow_17 4 rfl ?_
      refine g_aload_n h (pc := 19) dX4_flow_19 0 rfl ?_
      refine g_get h (pc := 20) dX4_flow_20 iX4_flow_4 0 rfl rfl 5 (by decide) fX4_flow_23 rfl ?_
      refine g_topi hz.ns ?_
      refine g_icmp_ge_f h (pc := 23) (tgt := 72) dX4_flow_23 (by decide) (nI_ge (by omega) (by omega)) ?_
      have tl : ∀ q : Int32, q = hnd Z k s (s + 1 + i) (flowF Z ns k (s + 1 + i)) → GG C 5 (mwd cI a v Z d) 0 0 64 [(0, .ref (a 0)), (1, .int (nI s)), (2, .int (nI k)), (3, .int acc), (4, .int (nI (s + 1 + i)))] [.int q, .int acc] := by
        intro q hq
        subst hq
        refine g_iadd h (pc := 64) dX4_flow_64  ?_
        refine g_istore_n h (pc := 65) dX4_flow_65 (by decide) rfl ?_
        refine g_iinc h (pc := 66) dX4_flow_66 4 rfl (nI_1 (s + 1 + i)) (by decide) rfl ?_
        refine g_goto h (pc := 69) (tgt := 17) dX4_flow_69 (by decide) ?_
        exact h9
      refine g_iload_n h (pc := 26) dX4_flow_26 3 rfl ?_
      refine g_aload_n h (pc := 27) dX4_flow_27 0 rfl ?_
      refine g_get h (pc := 28) dX4_flow_28 iX4_flow_4 0 rfl rfl 6 (by decide) fX4_flow_26 rfl ?_
      refine g_iload h (pc := 31) dX4_flow_31 4 rfl ?_
      refine g_iald h (pc := 33) (v := Z 3 0 (s + 1 + i)) dX4_flow_33 4 rfl (vp_in_nI (by omega) (by omega)) (by rw [nI_clamp (by omega)]) ?_
      refine g_iload_n h (pc := 34) dX4_flow_34 1 rfl ?_
      refine g_icmp_ne h (pc := 35) (tgt := 63) dX4_flow_35 (by decide) (fun c1 => ?_) (fun c1 => ?_)
      · refine g_iconst h (pc := 63) (v := 0) dX4_flow_63 (by decide) ?_
        exact tl 0 (by unfold hnd; rw [if_neg (fun z => c1 z.1)])
      · refine g_aload_n h (pc := 38) dX4_flow_38 0 rfl ?_
        refine g_get h (pc := 39) dX4_flow_39 iX4_flow_4 0 rfl rfl 9 (by decide) fX4_flow_35 rfl ?_
        refine g_bipush h (pc := 42) (v := 8) dX4_flow_42 (by decide) ?_
        refine g_iload h (pc := 44) dX4_flow_44 4 rfl ?_
        refine g_imul h (pc := 46) dX4_flow_46  ?_
        refine g_iload_n h (pc := 47) dX4_flow_47 2 rfl ?_
        refine g_iadd h (pc := 48) dX4_flow_48  ?_
        refine g_topi (nI_83 (s + 1 + i) k) ?_
        refine g_iald h (pc := 49) (v := Z 6 (s + 1 + i) k) dX4_flow_49 7 rfl (vp_in_nI (by omega) (by omega)) (by rw [nI_clamp (by omega)]; exact fl2_at _ (by omega)) ?_
        refine g_if_ne h (pc := 50) (tgt := 63) dX4_flow_50 (by decide) (fun c2 => ?_) (fun c2 => ?_)
        · refine g_iconst h (pc := 63) (v := 0) dX4_flow_63 (by decide) ?_
          exact tl 0 (by unfold hnd; rw [if_neg (fun z => c2 z.2)])
        · refine g_aload_n h (pc := 53) dX4_flow_53 0 rfl ?_
          refine g_iload h (pc := 54) dX4_flow_54 4 rfl ?_
          refine g_iload_n h (pc := 56) dX4_flow_56 2 rfl ?_
          refine g_callR h (pc := 57) (As := [.int (nI (s + 1 + i)), .int (nI k)]) (st := [.int acc]) dX4_flow_57 (ih (s + 1 + i) (by omega) (by omega)) [0, 1, 2, 3, 4, 5, 6, 7, 8, 9, 10, 11, 12, 13, 14, 15, 16, 17, 18, 19, 20, 21, 22, 23, 24] rfl (by decide) gX4_flow_X4_flow rfl (q0 := 0) rfl rfl (show nPar yX4_flow RX4 2 = true by decide +kernel) ⟨Nat.le_refl _, by show 8 + (5 + 11) + 30 * n ≤ 30 * (n + 1); omega⟩ rfl (Nat.le_of_ble_eq_true rfl) ⟨Nat.zero_le _, Nat.zero_le _⟩ (fun r hr => ?_)
          subst hr
          refine g_goto h (pc := 60) (tgt := 64) dX4_flow_60 (by decide) ?_
          exact tl _ (by unfold hnd; rw [if_pos ⟨c1, c2⟩])

theorem iX4_pipeOf_4 : ∀ w ∈ wsX40, w ∈ wsX4_pipeOf := by decide +kernel
theorem fX4_pipeOf_35 : Cond.fieldLink RX4 35 "SpareShelvesModel" "mends" "[I" ∈ wsX4_pipeOf := by decide +kernel
theorem fX4_pipeOf_29 : Cond.fieldLink RX4 29 "SpareShelvesModel" "way" "[I" ∈ wsX4_pipeOf := by decide +kernel
set_option maxHeartbeats 4000000 in
set_option maxRecDepth 100000 in
theorem m_pipeOf (l : Launch) (D : va_G) (cI cO : ClassId) (a : Nat → Nat) (v : MX) (Z : Sg) (d : Dy) (hRM : RM d v) (ns nk : Nat) (hz : Zv ns nk Z)  (s k : Nat) (hs : s < ns) (hk : k < nk) : CRm l yX4_pipeOf wsX4_pipeOf 9 266 D cI cO a v Z d [.int (nI s), .int (nI k)] (pipeF Z ns k s) := by
  unfold CRm
  refine CR.of (cc := cX4_pipeOf) (maxL := 3) (rt := .int) (by decide) rfl (Nat.le_of_ble_eq_true rfl) ?_
  intro C hgL hgD h hret
  have hn8 := hz.n8
  have hk8 := hz.k8
  refine g_aload_n h (pc := 0) dX4_pipeOf_0 0 rfl ?_
  refine g_iload_n h (pc := 1) dX4_pipeOf_1 1 rfl ?_
  refine g_iload_n h (pc := 2) dX4_pipeOf_2 2 rfl ?_
  refine g_callR h (pc := 3) (As := [.int (nI s), .int (nI k)]) (st := []) dX4_pipeOf_3 (m_flow (gL C) (gD C) cI cO a v Z d hRM ns nk hz k hk 8 s hs (by omega)) [0, 1, 2, 3, 4, 5, 6, 7, 8, 9, 10, 11, 12, 13, 14, 15, 16, 17, 18, 19, 20, 21, 22, 23, 24] rfl (by decide) gX4_pipeOf_X4_flow rfl (q0 := 0) rfl rfl (show nPar yX4_flow RX4 2 = true by decide +kernel) ⟨Nat.le_of_ble_eq_true rfl, Nat.le_of_ble_eq_true rfl⟩ rfl (Nat.le_of_ble_eq_true rfl) ⟨Nat.zero_le _, Nat.zero_le _⟩ (fun r hr => ?_)
  subst hr
  refine g_aload_n h (pc := 6) dX4_pipeOf_6 0 rfl ?_
  refine g_get h (pc := 7) dX4_pipeOf_7 iX4_pipeOf_4 0 rfl rfl 9 (by decide) fX4_pipeOf_35 rfl ?_
  refine g_bipush h (pc := 10) (v := 8) dX4_pipeOf_10 (by decide) ?_
  refine g_iload_n h (pc := 12) dX4_pipeOf_12 1 rfl ?_
  refine g_imul h (pc := 13) dX4_pipeOf_13  ?_
  refine g_iload_n h (pc := 14) dX4_pipeOf_14 2 rfl ?_
  refine g_iadd h (pc := 15) dX4_pipeOf_15  ?_
  refine g_topi (nI_83 s k) ?_
  refine g_iald h (pc := 16) (v := Z 6 s k) dX4_pipeOf_16 7 rfl (vp_in_nI (by omega) (by omega)) (by rw [nI_clamp (by omega)]; exact fl2_at _ (by omega)) ?_
  refine g_if_le h (pc := 17) (tgt := 34) dX4_pipeOf_17 (by decide) (fun c1 => ?_) (fun c1 => ?_)
  · refine g_aload_n h (pc := 34) dX4_pipeOf_34 0 rfl ?_
    refine g_get h (pc := 35) dX4_pipeOf_35 iX4_pipeOf_4 0 rfl rfl 7 (by decide) fX4_pipeOf_29 rfl ?_
    refine g_iload_n h (pc := 38) dX4_pipeOf_38 1 rfl ?_
    refine g_iald h (pc := 39) (v := Z 4 0 s) dX4_pipeOf_39 5 rfl (vp_in_nI (by omega) (by omega)) (by rw [nI_clamp (by omega)]) ?_
    refine g_imul h (pc := 40) dX4_pipeOf_40  ?_
    exact hret _ dX4_pipeOf_41 rfl (by unfold pipeF; rw [if_neg (Int32.not_lt.mpr c1)])
  · refine g_aload_n h (pc := 20) dX4_pipeOf_20 0 rfl ?_
    refine g_get h (pc := 21) dX4_pipeOf_21 iX4_pipeOf_4 0 rfl rfl 9 (by decide) fX4_pipeOf_35 rfl ?_
    refine g_bipush h (pc := 24) (v := 8) dX4_pipeOf_24 (by decide) ?_
    refine g_iload_n h (pc := 26) dX4_pipeOf_26 1 rfl ?_
    refine g_imul h (pc := 27) dX4_pipeOf_27  ?_
    refine g_iload_n h (pc := 28) dX4_pipeOf_28 2 rfl ?_
    refine g_iadd h (pc := 29) dX4_pipeOf_29  ?_
    refine g_topi (nI_83 s k) ?_
    refine g_iald h (pc := 30) (v := Z 6 s k) dX4_pipeOf_30 7 rfl (vp_in_nI (by omega) (by omega)) (by rw [nI_clamp (by omega)]; exact fl2_at _ (by omega)) ?_
    refine g_goto h (pc := 31) (tgt := 40) dX4_pipeOf_31 (by decide) ?_
    refine g_imul h (pc := 40) dX4_pipeOf_40  ?_
    exact hret _ dX4_pipeOf_41 rfl (by unfold pipeF; rw [if_pos (Int32.not_le.mp c1)])

theorem iX4_want_4 : ∀ w ∈ wsX40, w ∈ wsX4_want := by decide +kernel
theorem fX4_want_38 : Cond.fieldLink RX4 38 "SpareShelvesModel" "good" "[I" ∈ wsX4_want := by decide +kernel
set_option maxHeartbeats 4000000 in
set_option maxRecDepth 100000 in
theorem m_want (l : Launch) (D : va_G) (cI cO : ClassId) (a : Nat → Nat) (v : MX) (Z : Sg) (d : Dy) (hRM : RM d v) (ns nk : Nat) (hz : Zv ns nk Z)  (s k : Nat) (hs : s < ns) (hk : k < nk) : CRm l yX4_want wsX4_want 10 290 D cI cO a v Z d [.int (nI s), .int (nI k)] (wantF Z d ns k s) := by
  unfold CRm
  refine CR.of (cc := cX4_want) (maxL := 4) (rt := .int) (by decide) rfl (Nat.le_of_ble_eq_true rfl) ?_
  intro C hgL hgD h hret
  have hn8 := hz.n8
  have hk8 := hz.k8
  refine g_aload_n h (pc := 0) dX4_want_0 0 rfl ?_
  refine g_iload_n h (pc := 1) dX4_want_1 1 rfl ?_
  refine g_iload_n h (pc := 2) dX4_want_2 2 rfl ?_
  refine g_callR h (pc := 3) (As := [.int (nI s), .int (nI k)]) (st := []) dX4_want_3 (m_pipeOf (gL C) (gD C) cI cO a v Z d hRM ns nk hz s k hs hk) [0, 1, 2, 3, 4, 5, 6, 7, 8, 9, 10, 11, 12, 13, 14, 15, 16, 17, 18, 19, 20, 21, 22, 23, 24] rfl (by decide) gX4_want_X4_pipeOf rfl (q0 := 0) rfl rfl (show nPar yX4_pipeOf RX4 2 = true by decide +kernel) ⟨Nat.le_of_ble_eq_true rfl, Nat.le_of_ble_eq_true rfl⟩ rfl (Nat.le_of_ble_eq_true rfl) ⟨Nat.zero_le _, Nat.zero_le _⟩ (fun r hr => ?_)
  subst hr
  refine g_sipush h (pc := 6) (v := 1000) dX4_want_6 (by decide) ?_
  refine g_aload_n h (pc := 9) dX4_want_9 0 rfl ?_
  refine g_get h (pc := 10) dX4_want_10 iX4_want_4 0 rfl rfl 10 (by decide) fX4_want_38 rfl ?_
  refine g_bipush h (pc := 13) (v := 8) dX4_want_13 (by decide) ?_
  refine g_iload_n h (pc := 15) dX4_want_15 1 rfl ?_
  refine g_imul h (pc := 16) dX4_want_16  ?_
  refine g_iload_n h (pc := 17) dX4_want_17 2 rfl ?_
  refine g_iadd h (pc := 18) dX4_want_18  ?_
  refine g_topi (nI_83 s k) ?_
  refine g_iald h (pc := 19) (v := d.1 7 s k) dX4_want_19 8 rfl (vp_in_nI (by omega) (by omega)) (by rw [nI_clamp (by omega)]; exact fl2_at _ (by omega)) ?_
  refine g_imul h (pc := 20) dX4_want_20  ?_
  refine g_isub h (pc := 21) dX4_want_21  ?_
  refine g_istore_n h (pc := 22) dX4_want_22 (by decide) rfl ?_
  refine g_iload_n h (pc := 23) dX4_want_23 3 rfl ?_
  refine g_if_le h (pc := 24) (tgt := 31) dX4_want_24 (by decide) (fun c1 => ?_) (fun c1 => ?_)
  · refine g_iconst h (pc := 31) (v := 0) dX4_want_31 (by decide) ?_
    exact hret _ dX4_want_32 rfl (by unfold wantF; rw [if_neg (Int32.not_lt.mpr c1)])
  · refine g_iload_n h (pc := 27) dX4_want_27 3 rfl ?_
    refine g_goto h (pc := 28) (tgt := 32) dX4_want_28 (by decide) ?_
    exact hret _ dX4_want_32 rfl (by unfold wantF; rw [if_pos (Int32.not_le.mp c1)])

theorem iX4_pipe_4 : ∀ w ∈ wsX40, w ∈ wsX4_pipe := by decide +kernel
theorem fX4_pipe_41 : Cond.fieldLink RX4 41 "SpareShelvesModel" "rates" "[I" ∈ wsX4_pipe := by decide +kernel
set_option maxHeartbeats 4000000 in
set_option maxRecDepth 100000 in
theorem m_pipe (l : Launch) (D : va_G) (cI cO : ClassId) (a : Nat → Nat) (v : MX) (Z : Sg) (d : Dy) (hRM : RM d v) (ns nk : Nat) (hz : Zv ns nk Z) (x y wh : Int32) : CRm l yX4_pipe wsX4_pipe 11 315 D cI cO a v Z d [.int x, .int y, .int wh] (pipeP ns nk Z d x y wh) := by
  unfold CRm
  refine CR.of (cc := cX4_pipe) (maxL := 4) (rt := .int) (by decide) rfl (Nat.le_of_ble_eq_true rfl) ?_
  intro C hgL hgD h hret
  have hn8 := hz.n8
  have hk8 := hz.k8
  refine g_aload_n h (pc := 0) dX4_pipe_0 0 rfl ?_
  refine g_iload_n h (pc := 1) dX4_pipe_1 1 rfl ?_
  refine g_callR h (pc := 2) (As := [.int x]) (st := []) dX4_pipe_2 (m_isS (gL C) (gD C) cI cO a v Z d hRM ns nk hz x) [0, 1, 2, 3, 4, 5, 6, 7, 8, 9, 10, 11, 12, 13, 14, 15, 16, 17, 18, 19, 20, 21, 22, 23, 24] rfl (by decide) gX4_pipe_X4_isShelf rfl (q0 := 0) rfl rfl (show nPar yX4_isShelf RX4 1 = true by decide +kernel) ⟨Nat.le_of_ble_eq_true rfl, Nat.le_of_ble_eq_true rfl⟩ rfl (Nat.le_of_ble_eq_true rfl) ⟨Nat.zero_le _, Nat.zero_le _⟩ (fun r hr => ?_)
  subst hr
  cases hp1 : isIn x ns with
  | false =>
    refine g_topi (y := 0) rfl ?_
    refine g_if_eq_t h (pc := 5) (tgt := 16) dX4_pipe_5 (by decide) rfl ?_
    have hp : (isIn x ns && isIn y nk) = false := by rw [hp1]; rfl
    refine g_iconst h (pc := 16) (v := (-1)) dX4_pipe_16 (by decide) ?_
    exact hret _ dX4_pipe_17 rfl (by unfold pipeP; rw [if_pos hp])
  | true =>
    refine g_topi (y := 1) rfl ?_
    refine g_if_eq_f h (pc := 5) (tgt := 16) dX4_pipe_5 (by decide) (by decide) ?_
    refine g_aload_n h (pc := 8) dX4_pipe_8 0 rfl ?_
    refine g_iload_n h (pc := 9) dX4_pipe_9 2 rfl ?_
    refine g_callR h (pc := 10) (As := [.int y]) (st := []) dX4_pipe_10 (m_isK (gL C) (gD C) cI cO a v Z d hRM ns nk hz y) [0, 1, 2, 3, 4, 5, 6, 7, 8, 9, 10, 11, 12, 13, 14, 15, 16, 17, 18, 19, 20, 21, 22, 23, 24] rfl (by decide) gX4_pipe_X4_isKind rfl (q0 := 0) rfl rfl (show nPar yX4_isKind RX4 1 = true by decide +kernel) ⟨Nat.le_of_ble_eq_true rfl, Nat.le_of_ble_eq_true rfl⟩ rfl (Nat.le_of_ble_eq_true rfl) ⟨Nat.zero_le _, Nat.zero_le _⟩ (fun r hr => ?_)
    subst hr
    cases hp2 : isIn y nk with
    | false =>
      refine g_topi (y := 0) rfl ?_
      refine g_if_ne_f h (pc := 13) (tgt := 18) dX4_pipe_13 (by decide) rfl ?_
      have hp : (isIn x ns && isIn y nk) = false := by rw [hp1, hp2]; rfl
      refine g_iconst h (pc := 16) (v := (-1)) dX4_pipe_16 (by decide) ?_
      exact hret _ dX4_pipe_17 rfl (by unfold pipeP; rw [if_pos hp])
    | true =>
      refine g_topi (y := 1) rfl ?_
      refine g_if_ne_t h (pc := 13) (tgt := 18) dX4_pipe_13 (by decide) (by decide) ?_
      have hp : (isIn x ns && isIn y nk) = true := by rw [hp1, hp2]; rfl
      obtain ⟨s, hs, rfl⟩ := isIn_of (by omega) hp1
      obtain ⟨k, hk, rfl⟩ := isIn_of (by omega) hp2
      have ts : tN (nI s) = s := nI_clamp (by omega)
      have tk : tN (nI k) = k := nI_clamp (by omega)
      refine g_iload_n h (pc := 18) dX4_pipe_18 3 rfl ?_
      have e0 : ∀ q, pipeP ns nk Z d (nI s) (nI k) q = sw q [flowF Z ns k s, pipeF Z ns k s, wantF Z d ns k s, Z 8 s k] := by
        intro q
        unfold pipeP
        rw [hp, if_neg (by decide), ts, tk]
      cases hsw : isIn wh 4 with
      | false =>
        refine g_tblOut h (pc := 19) (tgt := 81) dX4_pipe_19 (isIn_out hsw rfl) (by decide) ?_
        refine g_iconst h (pc := 81) (v := (-1)) dX4_pipe_81 (by decide) ?_
        exact hret _ dX4_pipe_82 rfl (by rw [e0]; exact (sw_out hsw).symm)
      | true =>
        obtain ⟨j9, hj9, rfl⟩ := isIn_of (by omega) hsw
        rcases (show j9 = 0 ∨ j9 = 1 ∨ j9 = 2 ∨ j9 = 3 by omega) with rfl | rfl | rfl | rfl
        · refine g_tblIn h (pc := 19) (tgt := 48) dX4_pipe_19 (by decide) (by decide) (off := 29) (by decide) (by decide) ?_
          refine g_aload_n h (pc := 48) dX4_pipe_48 0 rfl ?_
          refine g_iload_n h (pc := 49) dX4_pipe_49 1 rfl ?_
          refine g_iload_n h (pc := 50) dX4_pipe_50 2 rfl ?_
          refine g_callR h (pc := 51) (As := [.int (nI s), .int (nI k)]) (st := []) dX4_pipe_51 (m_flow (gL C) (gD C) cI cO a v Z d hRM ns nk hz k hk 8 s hs (by omega)) [0, 1, 2, 3, 4, 5, 6, 7, 8, 9, 10, 11, 12, 13, 14, 15, 16, 17, 18, 19, 20, 21, 22, 23, 24] rfl (by decide) gX4_pipe_X4_flow rfl (q0 := 0) rfl rfl (show nPar yX4_flow RX4 2 = true by decide +kernel) ⟨Nat.le_of_ble_eq_true rfl, Nat.le_of_ble_eq_true rfl⟩ rfl (Nat.le_of_ble_eq_true rfl) ⟨Nat.zero_le _, Nat.zero_le _⟩ (fun r hr => ?_)
          subst hr
          exact hret _ dX4_pipe_54 rfl (by rw [e0]; exact (sw_in (j := 0) (Nat.le_of_ble_eq_true rfl) (Nat.le_of_ble_eq_true rfl) rfl).symm)
        · refine g_tblIn h (pc := 19) (tgt := 55) dX4_pipe_19 (by decide) (by decide) (off := 36) (by decide) (by decide) ?_
          refine g_aload_n h (pc := 55) dX4_pipe_55 0 rfl ?_
          refine g_iload_n h (pc := 56) dX4_pipe_56 1 rfl ?_
          refine g_iload_n h (pc := 57) dX4_pipe_57 2 rfl ?_
          refine g_callR h (pc := 58) (As := [.int (nI s), .int (nI k)]) (st := []) dX4_pipe_58 (m_pipeOf (gL C) (gD C) cI cO a v Z d hRM ns nk hz s k hs hk) [0, 1, 2, 3, 4, 5, 6, 7, 8, 9, 10, 11, 12, 13, 14, 15, 16, 17, 18, 19, 20, 21, 22, 23, 24] rfl (by decide) gX4_pipe_X4_pipeOf rfl (q0 := 0) rfl rfl (show nPar yX4_pipeOf RX4 2 = true by decide +kernel) ⟨Nat.le_of_ble_eq_true rfl, Nat.le_of_ble_eq_true rfl⟩ rfl (Nat.le_of_ble_eq_true rfl) ⟨Nat.zero_le _, Nat.zero_le _⟩ (fun r hr => ?_)
          subst hr
          exact hret _ dX4_pipe_61 rfl (by rw [e0]; exact (sw_in (j := 1) (Nat.le_of_ble_eq_true rfl) (Nat.le_of_ble_eq_true rfl) rfl).symm)
        · refine g_tblIn h (pc := 19) (tgt := 62) dX4_pipe_19 (by decide) (by decide) (off := 43) (by decide) (by decide) ?_
          refine g_aload_n h (pc := 62) dX4_pipe_62 0 rfl ?_
          refine g_iload_n h (pc := 63) dX4_pipe_63 1 rfl ?_
          refine g_iload_n h (pc := 64) dX4_pipe_64 2 rfl ?_
          refine g_callR h (pc := 65) (As := [.int (nI s), .int (nI k)]) (st := []) dX4_pipe_65 (m_want (gL C) (gD C) cI cO a v Z d hRM ns nk hz s k hs hk) [0, 1, 2, 3, 4, 5, 6, 7, 8, 9, 10, 11, 12, 13, 14, 15, 16, 17, 18, 19, 20, 21, 22, 23, 24] rfl (by decide) gX4_pipe_X4_want rfl (q0 := 0) rfl rfl (show nPar yX4_want RX4 2 = true by decide +kernel) ⟨Nat.le_of_ble_eq_true rfl, Nat.le_of_ble_eq_true rfl⟩ rfl (Nat.le_of_ble_eq_true rfl) ⟨Nat.zero_le _, Nat.zero_le _⟩ (fun r hr => ?_)
          subst hr
          exact hret _ dX4_pipe_68 rfl (by rw [e0]; exact (sw_in (j := 2) (Nat.le_of_ble_eq_true rfl) (Nat.le_of_ble_eq_true rfl) rfl).symm)
        · refine g_tblIn h (pc := 19) (tgt := 69) dX4_pipe_19 (by decide) (by decide) (off := 50) (by decide) (by decide) ?_
          refine g_aload_n h (pc := 69) dX4_pipe_69 0 rfl ?_
          refine g_get h (pc := 70) dX4_pipe_70 iX4_pipe_4 0 rfl rfl 11 (by decide) fX4_pipe_41 rfl ?_
          refine g_bipush h (pc := 73) (v := 8) dX4_pipe_73 (by decide) ?_
          refine g_iload_n h (pc := 75) dX4_pipe_75 1 rfl ?_
          refine g_imul h (pc := 76) dX4_pipe_76  ?_
          refine g_iload_n h (pc := 77) dX4_pipe_77 2 rfl ?_
          refine g_iadd h (pc := 78) dX4_pipe_78  ?_
          refine g_topi (nI_83 s k) ?_
          refine g_iald h (pc := 79) (v := Z 8 s k) dX4_pipe_79 9 rfl (vp_in_nI (by omega) (by omega)) (by rw [nI_clamp (by omega)]; exact fl2_at _ (by omega)) ?_
          exact hret _ dX4_pipe_80 rfl (by rw [e0]; exact (sw_in (j := 3) (Nat.le_of_ble_eq_true rfl) (Nat.le_of_ble_eq_true rfl) rfl).symm)

/-- the best of the first x places (eight to a shelf) -/
def bst (Z : Sg) (d : Dy) (ns nk x : Nat) : Option (Nat × Nat) := chK Z d ns (x / 8) (min (x % 8) nk) (chS Z d ns nk (x / 8))
theorem bst_8 (Z : Sg) (d : Dy) (ns nk : Nat) : bst Z d ns nk (8 * ns) = chS Z d ns nk ns := by
  unfold bst
  rw [show 8 * ns / 8 = ns by omega, show 8 * ns % 8 = 0 by omega, Nat.zero_min]
  rfl
theorem bst_s (Z : Sg) (d : Dy) {ns nk x : Nat} (hk : nk ≤ 8) : bst Z d ns nk (x + 1) = if x % 8 < nk then chs Z d ns (bst Z d ns nk x) (x / 8) (x % 8) else bst Z d ns nk x := by
  unfold bst
  by_cases h7 : x % 8 = 7
  · rw [show (x + 1) / 8 = x / 8 + 1 by omega, show (x + 1) % 8 = 0 by omega, Nat.zero_min, chK, chS, h7]
    by_cases h : 7 < nk
    · rw [if_pos h, show nk = 7 + 1 by omega, Nat.min_eq_left (by omega), chK]
    · rw [if_neg h, Nat.min_eq_right (by omega)]
  · rw [show (x + 1) / 8 = x / 8 by omega, show (x + 1) % 8 = x % 8 + 1 by omega]
    by_cases h : x % 8 < nk
    · rw [if_pos h, Nat.min_eq_left (by omega), Nat.min_eq_left (by omega), chK]
    · rw [if_neg h, Nat.min_eq_right (by omega), Nat.min_eq_right (by omega)]
theorem bst_in {Z : Sg} {d : Dy} {ns nk x : Nat} (hx : x < 8 * ns) : ∀ q, bst Z d ns nk x = some q → q.1 < ns ∧ q.2 < nk := chK_in _ _ (Nat.min_le_right _ _) (by omega) (chS_in _ (by omega))
def enc (b : Option (Nat × Nat)) : Int32 := match b with
  | none => -1
  | some q => nI (8 * q.1 + q.2)
def Zp (nk : Nat) (Z : Sg) : Prop := ∀ k, k < nk → ∃ p, 1 ≤ p ∧ p ≤ 1000 ∧ Z 0 0 k = nI p
theorem want_n (Z : Sg) (d : Dy) (ns k s : Nat) : ∃ w, w < 2 ^ 31 ∧ wantF Z d ns k s = nI w := by
  apply nI_of
  unfold wantF
  split
  · rename_i h
    exact Int32.not_lt.mpr (Int32.le_of_lt h)
  · decide
theorem chs_0 {Z : Sg} {d : Dy} {ns nk s k : Nat} (hp : Zp nk Z) (hk : k < nk) {b : Option (Nat × Nat)} (hb : ∀ q, b = some q → q.1 < ns ∧ q.2 < nk) (h : wantF Z d ns k s = 0) : chs Z d ns b s k = b := by
  obtain ⟨p, p1, p2, p3⟩ := hp k hk
  have key : ∃ w, w < 2 ^ 31 ∧ bW Z d ns b = lN w := by
    cases b with
    | none => exact ⟨0, by decide, rfl⟩
    | some q =>
      obtain ⟨w, w1, w2⟩ := want_n Z d ns q.2 q.1
      exact ⟨w, w1, by show (wantF Z d ns q.2 q.1).toInt64 = _; rw [w2, nI_l w1]⟩
  have key2 : ∃ w, bP Z b = lN w := by
    cases b with
    | none => exact ⟨1, rfl⟩
    | some q =>
      obtain ⟨p0, p4, p5, p6⟩ := hp q.2 (hb q rfl).2
      exact ⟨p0, by show (Z 0 0 q.2).toInt64 = _; rw [p6, nI_l (by omega)]⟩
  obtain ⟨w, w1, w2⟩ := key
  obtain ⟨u, u2⟩ := key2
  unfold chs
  rw [if_neg]
  have hwp : w * p < 2 ^ 63 := Nat.lt_of_le_of_lt (Nat.mul_le_mul (Nat.le_of_lt w1) p2) (by decide)
  rw [h, p3, w2, u2, nI_l (by omega), show (0 : Int32).toInt64 = lN 0 by decide, lN_mul, lN_mul, Nat.zero_mul, pk_lLT hwp (by decide)]
  omega
theorem chs_n {Z : Sg} {d : Dy} {ns nk s k : Nat} (hp : Zp nk Z) (hk : k < nk) (h : ¬ wantF Z d ns k s = 0) : chs Z d ns none s k = some (s, k) := by
  obtain ⟨p, p1, p2, p3⟩ := hp k hk
  obtain ⟨w, w1, w2⟩ := want_n Z d ns k s
  have hw : 0 < w := by
    rcases Nat.eq_zero_or_pos w with q | q
    · subst q
      exact absurd (w2.trans nI_0) h
    · exact q
  unfold chs
  rw [if_pos]
  show lN 0 * (Z 0 0 k).toInt64 < (wantF Z d ns k s).toInt64 * lN 1
  rw [p3, w2, nI_l (by omega), nI_l w1, lN_mul, lN_mul, Nat.zero_mul, Nat.mul_one, pk_lLT (by decide) (by omega)]
  exact hw
theorem lg_gt {x y : Int64} : 0 < lg_cmp x y ↔ y < x := by
  rw [← Int32.not_le, lg_le, Classical.not_not]

theorem iX4_choose_4 : ∀ w ∈ wsX40, w ∈ wsX4_choose := by decide +kernel
theorem fX4_choose_44 : Cond.fieldLink RX4 44 "SpareShelvesModel" "bought" "[I" ∈ wsX4_choose := by decide +kernel
theorem fX4_choose_23 : Cond.fieldLink RX4 23 "SpareShelvesModel" "shelves" "I" ∈ wsX4_choose := by decide +kernel
theorem fX4_choose_89 : Cond.fieldLink RX4 89 "SpareShelvesModel" "kinds" "I" ∈ wsX4_choose := by decide +kernel
theorem fX4_choose_13 : Cond.fieldLink RX4 13 "SpareShelvesModel" "price" "[I" ∈ wsX4_choose := by decide +kernel
set_option maxHeartbeats 4000000 in
set_option maxRecDepth 100000 in
theorem m_choose (l : Launch) (D : va_G) (cI cO : ClassId) (a : Nat → Nat) (v : MX) (Z : Sg) (d : Dy) (hRM : RM d v) (ns nk : Nat) (hz : Zv ns nk Z) (t : Nat) (hzx : Zx ns nk t Z) (hzp : Zp nk Z) (hd : Dv ns nk Z (t + 1) d) (hph : Ph d ≤ 2500) (B : Nat) (hB : B < 900000000) (hG : Gd B d) : CIm l yX4_choose wsX4_choose 11 320 D cI cO a v Z d [] (chooseP ns nk Z d).1 (chooseP ns nk Z d).2.1 (chooseP ns nk Z d).2.2 := by
  unfold CIm
  refine CI.of (cc := cX4_choose) (maxL := 3) (rt := .int) (by decide) rfl (Nat.le_of_ble_eq_true rfl) ?_
  intro C hgL hgD hw h hret
  have hn8 := hz.n8
  have hk8 := hz.k8
  have hn1 := hz.n1
  refine g_iconst h (pc := 0) (v := (-1)) dX4_choose_0 (by decide) ?_
  refine g_istore_n h (pc := 1) dX4_choose_1 (by decide) rfl ?_
  refine g_iconst h (pc := 2) (v := 0) dX4_choose_2 (by decide) ?_
  refine g_istore_n h (pc := 3) dX4_choose_3 (by decide) rfl ?_
  have fi : GG C 3 (mwd cI a v Z d) 0 0 112 [(0, .ref (a 0)), (1, .int (enc (chS Z d ns nk ns))), (2, .int (nI (8 * ns)))] [] := by
    cases hb : chS Z d ns nk ns with
    | none =>
      have e1 : (chooseP ns nk Z d) = (-1, Z, d) := by unfold chooseP; rw [hb]
      rw [e1] at hret
      refine g_iload_n h (pc := 112) dX4_choose_112 1 rfl ?_
      refine g_iconst h (pc := 113) (v := (-1)) dX4_choose_113 (by decide) ?_
      refine g_icmp_ne_f h (pc := 114) (tgt := 119) dX4_choose_114 (by decide) rfl ?_
      refine g_iconst h (pc := 117) (v := (-1)) dX4_choose_117 (by decide) ?_
      exact hret _ v dX4_choose_118 rfl ⟨rfl, hRM⟩ rfl (Nat.zero_le _) (Nat.zero_le _)
    | some q =>
      obtain ⟨s, k⟩ := q
      obtain ⟨hs, hk⟩ := chS_in ns (Nat.le_refl _) (s, k) hb
      replace hs : s < ns := hs
      replace hk : k < nk := hk
      show GG C 3 (mwd cI a v Z d) 0 0 112 [(0, .ref (a 0)), (1, .int (nI (8 * s + k))), (2, .int (nI (8 * ns)))] []
      refine g_iload_n h (pc := 112) dX4_choose_112 1 rfl ?_
      refine g_iconst h (pc := 113) (v := (-1)) dX4_choose_113 (by decide) ?_
      refine g_icmp_ne_t h (pc := 114) (tgt := 119) dX4_choose_114 (by decide) (nI_nm1 (by omega)) ?_
      refine g_aload_n h (pc := 119) dX4_choose_119 0 rfl ?_
      refine g_get h (pc := 120) dX4_choose_120 iX4_choose_4 0 rfl rfl 13 (by decide) fX4_choose_44 rfl ?_
      refine g_iload_n h (pc := 123) dX4_choose_123 1 rfl ?_
      refine g_bipush h (pc := 124) (v := 8) dX4_choose_124 (by decide) ?_
      refine g_irem h (pc := 126) dX4_choose_126 (by decide) ?_
      refine g_topi (y := nI k) (by rw [show (8 : Int32) = nI 8 from rfl, pk_rem (by omega) (by decide) (by decide), show (8 * s + k) % 8 = k by omega]) ?_
      refine g_iald h (pc := 127) (v := d.1 9 0 k) dX4_choose_127 10 rfl (vp_in_nI (by omega) (by omega)) (by rw [nI_clamp (by omega)]) ?_
      refine g_sipush h (pc := 128) (v := 200) dX4_choose_128 (by decide) ?_
      by_cases h2 : 200 ≤ d.1 9 0 k
      · have e1 : (chooseP ns nk Z d) = (-4, Z, d) := by unfold chooseP; rw [hb]; exact if_pos h2
        rw [e1] at hret
        refine g_icmp_lt_f h (pc := 131) (tgt := 137) dX4_choose_131 (by decide) (Int32.not_lt.mpr h2) ?_
        refine g_bipush h (pc := 134) (v := (-4)) dX4_choose_134 (by decide) ?_
        exact hret _ v dX4_choose_136 rfl ⟨rfl, hRM⟩ rfl (Nat.zero_le _) (Nat.zero_le _)
      · have e1 : (chooseP ns nk Z d) = (nI (8 * s + k), Z, lands Z (inc d 9 k) s k) := by unfold chooseP; rw [hb]; exact if_neg h2
        have e6 : sz (inc d 9 k) = sz d := rfl
        have e7 := Ph_sz d
        rw [e1] at hret
        refine g_icmp_lt_t h (pc := 131) (tgt := 137) dX4_choose_131 (by decide) (Int32.not_le.mp h2) ?_
        refine g_aload_n h (pc := 137) dX4_choose_137 0 rfl ?_
        refine g_get h (pc := 138) dX4_choose_138 iX4_choose_4 0 rfl rfl 13 (by decide) fX4_choose_44 rfl ?_
        refine g_iload_n h (pc := 141) dX4_choose_141 1 rfl ?_
        refine g_bipush h (pc := 142) (v := 8) dX4_choose_142 (by decide) ?_
        refine g_irem h (pc := 144) dX4_choose_144 (by decide) ?_
        refine g_topi (y := nI k) (by rw [show (8 : Int32) = nI 8 from rfl, pk_rem (by omega) (by decide) (by decide), show (8 * s + k) % 8 = k by omega]) ?_
        refine g_dup2 h (pc := 145) dX4_choose_145 rfl rfl ?_
        refine g_iald h (pc := 146) (v := d.1 9 0 k) dX4_choose_146 10 rfl (vp_in_nI (by omega) (by omega)) (by rw [nI_clamp (by omega)]) ?_
        refine g_iconst h (pc := 147) (v := 1) dX4_choose_147 (by decide) ?_
        refine g_iadd h (pc := 148) dX4_choose_148  ?_
        refine g_iast h hw (pc := 149) (ws' := mw cI a v Z (inc d 9 k).1 (nI d.2.1.length) (nI d.2.2.1.length)) dX4_choose_149 10 rfl (vp_in_nI (by omega) (by omega)) (by rw [nI_clamp (by omega)]; rfl) ?_
        refine g_aload_n h (pc := 150) dX4_choose_150 0 rfl ?_
        refine g_iload_n h (pc := 151) dX4_choose_151 1 rfl ?_
        refine g_bipush h (pc := 152) (v := 8) dX4_choose_152 (by decide) ?_
        refine g_idiv h (pc := 154) dX4_choose_154 (by decide) ?_
        refine g_topi (y := nI s) (by rw [show (8 : Int32) = nI 8 from rfl, pk_div (by omega) (by decide) (by decide), show (8 * s + k) / 8 = s by omega]) ?_
        refine g_iload_n h (pc := 155) dX4_choose_155 1 rfl ?_
        refine g_bipush h (pc := 156) (v := 8) dX4_choose_156 (by decide) ?_
        refine g_irem h (pc := 158) dX4_choose_158 (by decide) ?_
        refine g_topi (y := nI k) (by rw [show (8 : Int32) = nI 8 from rfl, pk_rem (by omega) (by decide) (by decide), show (8 * s + k) % 8 = k by omega]) ?_
        refine g_eq (ws' := mwd cI a v Z (inc d 9 k)) rfl ?_
        refine g_callV h (pc := 159) (As := [.int (nI s), .int (nI k)]) (st := []) dX4_choose_159 (m_lands (gL C) (gD C) cI cO a v Z (inc d 9 k) hRM ns nk hz (by omega) B (by omega) hG hd.1 s k hs hk) hw gX4_choose_X4_lands rfl (q0 := 0) rfl rfl (show nPar yX4_lands RX4 2 = true by decide +kernel) ⟨Nat.le_of_ble_eq_true rfl, Nat.le_of_ble_eq_true rfl⟩ rfl (Nat.le_of_ble_eq_true rfl) ⟨Nat.zero_le _, Nat.zero_le _⟩ (fun v2 hR2 => ?_)
        refine g_iload_n h (pc := 162) dX4_choose_162 1 rfl ?_
        exact hret _ v2 dX4_choose_163 rfl ⟨rfl, hR2⟩ rfl (Nat.zero_le _) (Nat.zero_le _)
  have key : (∀ (m x : Nat), x + m = 8 * ns → GG C 3 (mwd cI a v Z d) 0 0 4 [(0, .ref (a 0)), (1, .int (enc (bst Z d ns nk x))), (2, .int (nI x))] []) → GG C 3 (mwd cI a v Z d) 0 0 4 [(0, .ref (a 0)), (1, .int (-1)), (2, .int 0)] [] := fun loop => by
    have h0 := loop (8 * ns) 0 (by omega)
    rw [show bst Z d ns nk 0 = none from by unfold bst; rw [Nat.zero_mod, Nat.zero_min]; rfl] at h0
    exact h0
  refine key ?_
  intro m
  induction m with
  | zero =>
    intro x h1
    refine g_iload_n h (pc := 4) dX4_choose_4 2 rfl ?_
    refine g_bipush h (pc := 5) (v := 8) dX4_choose_5 (by decide) ?_
    refine g_aload_n h (pc := 7) dX4_choose_7 0 rfl ?_
    refine g_get h (pc := 8) dX4_choose_8 iX4_choose_4 0 rfl rfl 5 (by decide) fX4_choose_23 rfl ?_
    refine g_imul h (pc := 11) dX4_choose_11  ?_
    refine g_topi (y := nI (8 * ns)) (by rw [hz.ns, show (8 : Int32) = nI 8 from rfl, pk_mul]) ?_
    refine g_icmp_ge_t h (pc := 12) (tgt := 112) dX4_choose_12 (by decide) (nI_le (by omega) (by omega)) ?_
    rw [show x = 8 * ns by omega, bst_8]
    exact fi
  | succ m ih =>
    intro x h1
    have h9 := ih (x + 1) (by omega)
    rw [bst_s Z d hk8] at h9
    have hbi := bst_in (Z := Z) (d := d) (nk := nk) (show x < 8 * ns by omega)
    generalize (bst Z d ns nk x) = b at h9 hbi ⊢
    refine g_iload_n h (pc := 4) dX4_choose_4 2 rfl ?_
    refine g_bipush h (pc := 5) (v := 8) dX4_choose_5 (by decide) ?_
    refine g_aload_n h (pc := 7) dX4_choose_7 0 rfl ?_
    refine g_get h (pc := 8) dX4_choose_8 iX4_choose_4 0 rfl rfl 5 (by decide) fX4_choose_23 rfl ?_
    refine g_imul h (pc := 11) dX4_choose_11  ?_
    refine g_topi (y := nI (8 * ns)) (by rw [hz.ns, show (8 : Int32) = nI 8 from rfl, pk_mul]) ?_
    refine g_icmp_ge_f h (pc := 12) (tgt := 112) dX4_choose_12 (by decide) (nI_ge (by omega) (by omega)) ?_
    refine g_iload_n h (pc := 15) dX4_choose_15 2 rfl ?_
    refine g_bipush h (pc := 16) (v := 8) dX4_choose_16 (by decide) ?_
    refine g_irem h (pc := 18) dX4_choose_18 (by decide) ?_
    refine g_topi (y := nI (x % 8)) (pk_rem (d := 8) (by omega) (by decide) (by decide)) ?_
    refine g_aload_n h (pc := 19) dX4_choose_19 0 rfl ?_
    refine g_get h (pc := 20) dX4_choose_20 iX4_choose_4 0 rfl rfl 1 (by decide) fX4_choose_89 rfl ?_
    refine g_topi hz.nk ?_
    by_cases hkx : x % 8 < nk
    · rw [if_pos hkx] at h9
      refine g_icmp_ge_f h (pc := 23) (tgt := 106) dX4_choose_23 (by decide) (nI_ge hkx (by omega)) ?_
      refine g_aload_n h (pc := 26) dX4_choose_26 0 rfl ?_
      refine g_iload_n h (pc := 27) dX4_choose_27 2 rfl ?_
      refine g_bipush h (pc := 28) (v := 8) dX4_choose_28 (by decide) ?_
      refine g_idiv h (pc := 30) dX4_choose_30 (by decide) ?_
      refine g_topi (y := nI (x / 8)) (pk_div (d := 8) (by omega) (by decide) (by decide)) ?_
      refine g_iload_n h (pc := 31) dX4_choose_31 2 rfl ?_
      refine g_bipush h (pc := 32) (v := 8) dX4_choose_32 (by decide) ?_
      refine g_irem h (pc := 34) dX4_choose_34 (by decide) ?_
      refine g_topi (y := nI (x % 8)) (pk_rem (d := 8) (by omega) (by decide) (by decide)) ?_
      refine g_callR h (pc := 35) (As := [.int (nI (x / 8)), .int (nI (x % 8))]) (st := []) dX4_choose_35 (m_want (gL C) (gD C) cI cO a v Z d hRM ns nk hz (x / 8) (x % 8) (by omega) hkx) [0, 1, 2, 3, 4, 5, 6, 7, 8, 9, 10, 11, 12, 13, 14, 15, 16, 17, 18, 19, 20, 21, 22, 23, 24] rfl (by decide) gX4_choose_X4_want rfl (q0 := 0) rfl rfl (show nPar yX4_want RX4 2 = true by decide +kernel) ⟨Nat.le_of_ble_eq_true rfl, Nat.le_of_ble_eq_true rfl⟩ rfl (Nat.le_of_ble_eq_true rfl) ⟨Nat.zero_le _, Nat.zero_le _⟩ (fun r hr => ?_)
      subst hr
      by_cases hw0 : wantF Z d ns (x % 8) (x / 8) = 0
      · rw [chs_0 hzp hkx hbi hw0] at h9
        refine g_if_ne_f h (pc := 38) (tgt := 44) dX4_choose_38 (by decide) hw0 ?_
        refine g_goto h (pc := 41) (tgt := 106) dX4_choose_41 (by decide) ?_
        refine g_iinc h (pc := 106) dX4_choose_106 2 rfl (nI_1 x) (by decide) rfl ?_
        refine g_goto h (pc := 109) (tgt := 4) dX4_choose_109 (by decide) ?_
        exact h9
      · refine g_if_ne_t h (pc := 38) (tgt := 44) dX4_choose_38 (by decide) hw0 ?_
        refine g_iload_n h (pc := 44) dX4_choose_44 1 rfl ?_
        refine g_iconst h (pc := 45) (v := (-1)) dX4_choose_45 (by decide) ?_
        cases b with
        | none =>
          rw [chs_n hzp hkx hw0] at h9
          refine g_icmp_eq_t h (pc := 46) (tgt := 104) dX4_choose_46 (by decide) rfl ?_
          refine g_iload_n h (pc := 104) dX4_choose_104 2 rfl ?_
          refine g_istore_n h (pc := 105) dX4_choose_105 (by decide) rfl ?_
          refine g_iinc h (pc := 106) dX4_choose_106 2 rfl (nI_1 x) (by decide) rfl ?_
          refine g_goto h (pc := 109) (tgt := 4) dX4_choose_109 (by decide) ?_
          exact g_lv (lv' := [(0, .ref (a 0)), (1, .int (nI (8 * (x / 8) + x % 8))), (2, .int (nI (x + 1)))]) (by rw [show 8 * (x / 8) + x % 8 = x by omega]; rfl) h9
        | some q =>
          obtain ⟨s0, k0⟩ := q
          obtain ⟨hs0, hk0⟩ := hbi (s0, k0) rfl
          replace hs0 : s0 < ns := hs0
          replace hk0 : k0 < nk := hk0
          show GG C 3 (mwd cI a v Z d) 0 0 46 [(0, .ref (a 0)), (1, .int (nI (8 * s0 + k0))), (2, .int (nI x))] [.int (-1), .int (nI (8 * s0 + k0))]
          refine g_icmp_eq_f h (pc := 46) (tgt := 104) dX4_choose_46 (by decide) (nI_nm1 (by omega)) ?_
          refine g_aload_n h (pc := 49) dX4_choose_49 0 rfl ?_
          refine g_iload_n h (pc := 50) dX4_choose_50 2 rfl ?_
          refine g_bipush h (pc := 51) (v := 8) dX4_choose_51 (by decide) ?_
          refine g_idiv h (pc := 53) dX4_choose_53 (by decide) ?_
          refine g_topi (y := nI (x / 8)) (pk_div (d := 8) (by omega) (by decide) (by decide)) ?_
          refine g_iload_n h (pc := 54) dX4_choose_54 2 rfl ?_
          refine g_bipush h (pc := 55) (v := 8) dX4_choose_55 (by decide) ?_
          refine g_irem h (pc := 57) dX4_choose_57 (by decide) ?_
          refine g_topi (y := nI (x % 8)) (pk_rem (d := 8) (by omega) (by decide) (by decide)) ?_
          refine g_callR h (pc := 58) (As := [.int (nI (x / 8)), .int (nI (x % 8))]) (st := []) dX4_choose_58 (m_want (gL C) (gD C) cI cO a v Z d hRM ns nk hz (x / 8) (x % 8) (by omega) hkx) [0, 1, 2, 3, 4, 5, 6, 7, 8, 9, 10, 11, 12, 13, 14, 15, 16, 17, 18, 19, 20, 21, 22, 23, 24] rfl (by decide) gX4_choose_X4_want rfl (q0 := 0) rfl rfl (show nPar yX4_want RX4 2 = true by decide +kernel) ⟨Nat.le_of_ble_eq_true rfl, Nat.le_of_ble_eq_true rfl⟩ rfl (Nat.le_of_ble_eq_true rfl) ⟨Nat.zero_le _, Nat.zero_le _⟩ (fun r2 hr2 => ?_)
          subst hr2
          refine g_i2l h (pc := 61) dX4_choose_61  ?_
          refine g_aload_n h (pc := 62) dX4_choose_62 0 rfl ?_
          refine g_get h (pc := 63) dX4_choose_63 iX4_choose_4 0 rfl rfl 2 (by decide) fX4_choose_13 rfl ?_
          refine g_iload_n h (pc := 66) dX4_choose_66 1 rfl ?_
          refine g_bipush h (pc := 67) (v := 8) dX4_choose_67 (by decide) ?_
          refine g_irem h (pc := 69) dX4_choose_69 (by decide) ?_
          refine g_topi (y := nI k0) (by rw [show (8 : Int32) = nI 8 from rfl, pk_rem (by omega) (by decide) (by decide), show (8 * s0 + k0) % 8 = k0 by omega]) ?_
          refine g_iald h (pc := 70) (v := Z 0 0 k0) dX4_choose_70 1 rfl (vp_in_nI (by omega) (by omega)) (by rw [nI_clamp (by omega)]) ?_
          refine g_i2l h (pc := 71) dX4_choose_71  ?_
          refine g_lmul h (pc := 72) dX4_choose_72  ?_
          refine g_aload_n h (pc := 73) dX4_choose_73 0 rfl ?_
          refine g_iload_n h (pc := 74) dX4_choose_74 1 rfl ?_
          refine g_bipush h (pc := 75) (v := 8) dX4_choose_75 (by decide) ?_
          refine g_idiv h (pc := 77) dX4_choose_77 (by decide) ?_
          refine g_topi (y := nI s0) (by rw [show (8 : Int32) = nI 8 from rfl, pk_div (by omega) (by decide) (by decide), show (8 * s0 + k0) / 8 = s0 by omega]) ?_
          refine g_iload_n h (pc := 78) dX4_choose_78 1 rfl ?_
          refine g_bipush h (pc := 79) (v := 8) dX4_choose_79 (by decide) ?_
          refine g_irem h (pc := 81) dX4_choose_81 (by decide) ?_
          refine g_topi (y := nI k0) (by rw [show (8 : Int32) = nI 8 from rfl, pk_rem (by omega) (by decide) (by decide), show (8 * s0 + k0) % 8 = k0 by omega]) ?_
          refine g_callR h (pc := 82) (As := [.int (nI s0), .int (nI k0)]) (st := [.long ((wantF Z d ns (x % 8) (x / 8)).toInt64 * (Z 0 0 k0).toInt64)]) dX4_choose_82 (m_want (gL C) (gD C) cI cO a v Z d hRM ns nk hz s0 k0 hs0 hk0) [0, 1, 2, 3, 4, 5, 6, 7, 8, 9, 10, 11, 12, 13, 14, 15, 16, 17, 18, 19, 20, 21, 22, 23, 24] rfl (by decide) gX4_choose_X4_want rfl (q0 := 0) rfl rfl (show nPar yX4_want RX4 2 = true by decide +kernel) ⟨Nat.le_of_ble_eq_true rfl, Nat.le_of_ble_eq_true rfl⟩ rfl (Nat.le_of_ble_eq_true rfl) ⟨Nat.zero_le _, Nat.zero_le _⟩ (fun r3 hr3 => ?_)
          subst hr3
          refine g_i2l h (pc := 85) dX4_choose_85  ?_
          refine g_aload_n h (pc := 86) dX4_choose_86 0 rfl ?_
          refine g_get h (pc := 87) dX4_choose_87 iX4_choose_4 0 rfl rfl 2 (by decide) fX4_choose_13 rfl ?_
          refine g_iload_n h (pc := 90) dX4_choose_90 2 rfl ?_
          refine g_bipush h (pc := 91) (v := 8) dX4_choose_91 (by decide) ?_
          refine g_irem h (pc := 93) dX4_choose_93 (by decide) ?_
          refine g_topi (y := nI (x % 8)) (pk_rem (d := 8) (by omega) (by decide) (by decide)) ?_
          refine g_iald h (pc := 94) (v := Z 0 0 (x % 8)) dX4_choose_94 1 rfl (vp_in_nI (by omega) (by omega)) (by rw [nI_clamp (by omega)]) ?_
          refine g_i2l h (pc := 95) dX4_choose_95  ?_
          refine g_lmul h (pc := 96) dX4_choose_96  ?_
          refine g_lcmp h (pc := 97) dX4_choose_97  ?_
          refine g_if_gt h (pc := 98) (tgt := 104) dX4_choose_98 (by decide) (fun c7 => ?_) (fun c7 => ?_)
          · have e9 : chs Z d ns (some (s0, k0)) (x / 8) (x % 8) = some (x / 8, x % 8) := if_pos (lg_gt.mp c7)
            rw [e9] at h9
            refine g_iload_n h (pc := 104) dX4_choose_104 2 rfl ?_
            refine g_istore_n h (pc := 105) dX4_choose_105 (by decide) rfl ?_
            refine g_iinc h (pc := 106) dX4_choose_106 2 rfl (nI_1 x) (by decide) rfl ?_
            refine g_goto h (pc := 109) (tgt := 4) dX4_choose_109 (by decide) ?_
            exact g_lv (lv' := [(0, .ref (a 0)), (1, .int (nI (8 * (x / 8) + x % 8))), (2, .int (nI (x + 1)))]) (by rw [show 8 * (x / 8) + x % 8 = x by omega]; rfl) h9
          · have e9 : chs Z d ns (some (s0, k0)) (x / 8) (x % 8) = some (s0, k0) := if_neg (fun q => c7 (lg_gt.mpr q))
            rw [e9] at h9
            refine g_goto h (pc := 101) (tgt := 106) dX4_choose_101 (by decide) ?_
            refine g_iinc h (pc := 106) dX4_choose_106 2 rfl (nI_1 x) (by decide) rfl ?_
            refine g_goto h (pc := 109) (tgt := 4) dX4_choose_109 (by decide) ?_
            exact h9
    · rw [if_neg hkx] at h9
      refine g_icmp_ge_t h (pc := 23) (tgt := 106) dX4_choose_23 (by decide) (nI_le (by omega) (by omega)) ?_
      refine g_iinc h (pc := 106) dX4_choose_106 2 rfl (nI_1 x) (by decide) rfl ?_
      refine g_goto h (pc := 109) (tgt := 4) dX4_choose_109 (by decide) ?_
      exact h9
