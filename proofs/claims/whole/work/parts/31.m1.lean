set_option maxHeartbeats 4000000 in
set_option maxRecDepth 100000 in
theorem m_in (l : Launch) (D : va_G) (cI cO : ClassId) (x lo hi : Int32) : CR l yX4_in wsX4_in 0 0 D cI cO [.int x, .int lo, .int hi] [] (fun r => r = if outB x lo hi then 0 else 1) := by
  refine CR.of (cc := cX4_in) (maxL := 3) (rt := .boolean) (by decide) rfl (Nat.le_of_ble_eq_true rfl) ?_
  intro C hgL hgD h hret
  refine g_iload_n h (pc := 0) dX4_in_0 0 rfl ?_
  refine g_iload_n h (pc := 1) dX4_in_1 1 rfl ?_
  refine g_icmp_lt h (pc := 2) (tgt := 14) dX4_in_2 (by decide) (fun c1 => ?_) (fun c1 => ?_)
  · refine g_iconst h (pc := 14) (v := 0) dX4_in_14 (by decide) ?_
    exact hret _ dX4_in_15 (by decide) (by rw [show outB x lo hi = true from decide_eq_true (Or.inl c1)]; rfl)
  · refine g_iload_n h (pc := 5) dX4_in_5 0 rfl ?_
    refine g_iload_n h (pc := 6) dX4_in_6 2 rfl ?_
    refine g_icmp_gt h (pc := 7) (tgt := 14) dX4_in_7 (by decide) (fun c2 => ?_) (fun c2 => ?_)
    · refine g_iconst h (pc := 14) (v := 0) dX4_in_14 (by decide) ?_
      exact hret _ dX4_in_15 (by decide) (by rw [show outB x lo hi = true from decide_eq_true (Or.inr c2)]; rfl)
    · refine g_iconst h (pc := 10) (v := 1) dX4_in_10 (by decide) ?_
      refine g_goto h (pc := 11) (tgt := 15) dX4_in_11 (by decide) ?_
      exact hret _ dX4_in_15 (by decide) (by rw [show outB x lo hi = false from decide_eq_false (fun q => q.elim c1 c2)]; rfl)

theorem outB_isIn (x : Int32) {n : Nat} (hn : n ≤ 8) : outB x 0 (nI n - 1) = !isIn x n := by
  rcases Nat.eq_zero_or_pos n with h0 | h0
  · subst h0
    rw [show isIn x 0 = false from decide_eq_false (by omega), show nI 0 - 1 = (-1 : Int32) by decide]
    apply decide_eq_true
    by_cases h : x < 0
    · exact Or.inl h
    · right
      rw [Int32.lt_iff_toInt_lt] at h ⊢
      rw [show (-1 : Int32).toInt = -1 by decide]
      rw [show (0 : Int32).toInt = 0 by decide] at h
      omega
  · rw [show (1 : Int32) = nI 1 from rfl, pk_sub h0]
    unfold outB isIn
    rw [← decide_not]
    apply decide_eq_decide.mpr
    rw [Int32.lt_iff_toInt_lt, Int32.lt_iff_toInt_lt, nI_toInt (by omega), show (0 : Int32).toInt = 0 by decide]
    omega

theorem iX4_isKind_4 : ∀ w ∈ wsX40, w ∈ wsX4_isKind := by decide +kernel
theorem fX4_isKind_89 : Cond.fieldLink RX4 89 "SpareShelvesModel" "kinds" "I" ∈ wsX4_isKind := by decide +kernel
set_option maxHeartbeats 4000000 in
set_option maxRecDepth 100000 in
theorem m_isK (l : Launch) (D : va_G) (cI cO : ClassId) (a : Nat → Nat) (v : MX) (Z : Sg) (d : Dy) (hRM : RM d v) (ns nk : Nat) (hz : Zv ns nk Z) (x : Int32) : CRm l yX4_isKind wsX4_isKind 1 23 D cI cO a v Z d [.int x] (if isIn x nk then 1 else 0) := by
  unfold CRm
  refine CR.of (cc := cX4_isKind) (maxL := 2) (rt := .boolean) (by decide) rfl (Nat.le_of_ble_eq_true rfl) ?_
  intro C hgL hgD h hret
  have hn8 := hz.n8
  have hk8 := hz.k8
  refine g_iload_n h (pc := 0) dX4_isKind_0 1 rfl ?_
  refine g_iconst h (pc := 1) (v := 0) dX4_isKind_1 (by decide) ?_
  refine g_aload_n h (pc := 2) dX4_isKind_2 0 rfl ?_
  refine g_get h (pc := 3) dX4_isKind_3 iX4_isKind_4 0 rfl rfl 1 (by decide) fX4_isKind_89 rfl ?_
  refine g_topi hz.nk ?_
  refine g_iconst h (pc := 6) (v := 1) dX4_isKind_6 (by decide) ?_
  refine g_isub h (pc := 7) dX4_isKind_7  ?_
  refine g_scallR h (pc := 8) (As := [.int x, .int 0, .int (nI nk - 1)]) (st := []) dX4_isKind_8 (m_in (gL C) (gD C) cI cO x 0 (nI nk - 1)) [] rfl (by decide) gX4_isKind_X4_in rfl (show nPar yX4_in RX4 3 = true by decide +kernel) ⟨Nat.le_of_ble_eq_true rfl, Nat.le_of_ble_eq_true rfl⟩ rfl (Nat.le_of_ble_eq_true rfl) ⟨Nat.zero_le _, Nat.zero_le _⟩ (fun r hr => ?_)
  subst hr
  rw [outB_isIn x (by omega)]
  cases hi : isIn x nk with
  | false =>
    rw [hi] at hret
    exact hret _ dX4_isKind_11 (by decide) rfl
  | true =>
    rw [hi] at hret
    exact hret _ dX4_isKind_11 (by decide) rfl

theorem iX4_isShelf_4 : ∀ w ∈ wsX40, w ∈ wsX4_isShelf := by decide +kernel
theorem fX4_isShelf_23 : Cond.fieldLink RX4 23 "SpareShelvesModel" "shelves" "I" ∈ wsX4_isShelf := by decide +kernel
set_option maxHeartbeats 4000000 in
set_option maxRecDepth 100000 in
theorem m_isS (l : Launch) (D : va_G) (cI cO : ClassId) (a : Nat → Nat) (v : MX) (Z : Sg) (d : Dy) (hRM : RM d v) (ns nk : Nat) (hz : Zv ns nk Z) (x : Int32) : CRm l yX4_isShelf wsX4_isShelf 1 23 D cI cO a v Z d [.int x] (if isIn x ns then 1 else 0) := by
  unfold CRm
  refine CR.of (cc := cX4_isShelf) (maxL := 2) (rt := .boolean) (by decide) rfl (Nat.le_of_ble_eq_true rfl) ?_
  intro C hgL hgD h hret
  have hn8 := hz.n8
  have hk8 := hz.k8
  refine g_iload_n h (pc := 0) dX4_isShelf_0 1 rfl ?_
  refine g_iconst h (pc := 1) (v := 0) dX4_isShelf_1 (by decide) ?_
  refine g_aload_n h (pc := 2) dX4_isShelf_2 0 rfl ?_
  refine g_get h (pc := 3) dX4_isShelf_3 iX4_isShelf_4 0 rfl rfl 5 (by decide) fX4_isShelf_23 rfl ?_
  refine g_topi hz.ns ?_
  refine g_iconst h (pc := 6) (v := 1) dX4_isShelf_6 (by decide) ?_
  refine g_isub h (pc := 7) dX4_isShelf_7  ?_
  refine g_scallR h (pc := 8) (As := [.int x, .int 0, .int (nI ns - 1)]) (st := []) dX4_isShelf_8 (m_in (gL C) (gD C) cI cO x 0 (nI ns - 1)) [] rfl (by decide) gX4_isShelf_X4_in rfl (show nPar yX4_in RX4 3 = true by decide +kernel) ⟨Nat.le_of_ble_eq_true rfl, Nat.le_of_ble_eq_true rfl⟩ rfl (Nat.le_of_ble_eq_true rfl) ⟨Nat.zero_le _, Nat.zero_le _⟩ (fun r hr => ?_)
  subst hr
  rw [outB_isIn x (by omega)]
  cases hi : isIn x ns with
  | false =>
    rw [hi] at hret
    exact hret _ dX4_isShelf_11 (by decide) rfl
  | true =>
    rw [hi] at hret
    exact hret _ dX4_isShelf_11 (by decide) rfl

theorem iX4_menderOf_4 : ∀ w ∈ wsX40, w ∈ wsX4_menderOf := by decide +kernel
theorem fX4_menderOf_35 : Cond.fieldLink RX4 35 "SpareShelvesModel" "mends" "[I" ∈ wsX4_menderOf := by decide +kernel
theorem fX4_menderOf_26 : Cond.fieldLink RX4 26 "SpareShelvesModel" "up" "[I" ∈ wsX4_menderOf := by decide +kernel
set_option maxHeartbeats 4000000 in
set_option maxRecDepth 100000 in
theorem m_mender (l : Launch) (D : va_G) (cI cO : ClassId) (a : Nat → Nat) (v : MX) (Z : Sg) (d : Dy) (hRM : RM d v) (ns nk : Nat) (hz : Zv ns nk Z) (s k : Nat) (hs : s < ns) (hk : k < nk) : CRm l yX4_menderOf wsX4_menderOf 0 0 D cI cO a v Z d [.int (nI s), .int (nI k)] (nI (mOf Z k s)) := by
  unfold CRm
  refine CR.of (cc := cX4_menderOf) (maxL := 4) (rt := .int) (by decide) rfl (Nat.le_of_ble_eq_true rfl) ?_
  intro C hgL hgD h hret
  have hn8 := hz.n8
  have hk8 := hz.k8
  refine g_iload_n h (pc := 0) dX4_menderOf_0 1 rfl ?_
  refine g_istore_n h (pc := 1) dX4_menderOf_1 (by decide) rfl ?_
  suffices loop : ∀ (n x : Nat), x < n → x < ns → mo Z k n x = mOf Z k s → GG C 4 (mwd cI a v Z d) 0 0 2 [(0, .ref (a 0)), (1, .int (nI s)), (2, .int (nI k)), (3, .int (nI x))] [] from loop 8 s (by omega) hs rfl
  intro n
  induction n with
  | zero =>
    intro x h1
    exact absurd h1 (by omega)
  | succ n ih =>
    intro x h1 h2 hm
    refine g_aload_n h (pc := 2) dX4_menderOf_2 0 rfl ?_
    refine g_get h (pc := 3) dX4_menderOf_3 iX4_menderOf_4 0 rfl rfl 9 (by decide) fX4_menderOf_35 rfl ?_
    refine g_bipush h (pc := 6) (v := 8) dX4_menderOf_6 (by decide) ?_
    refine g_iload_n h (pc := 8) dX4_menderOf_8 3 rfl ?_
    refine g_imul h (pc := 9) dX4_menderOf_9  ?_
    refine g_iload_n h (pc := 10) dX4_menderOf_10 2 rfl ?_
    refine g_iadd h (pc := 11) dX4_menderOf_11  ?_
    refine g_topi (nI_83 x k) ?_
    refine g_iald h (pc := 12) (v := Z 6 x k) dX4_menderOf_12 7 rfl (vp_in_nI (by omega) (by omega)) (by rw [nI_clamp (by omega)]; exact fl2_at _ (by omega)) ?_
    refine g_if_ne h (pc := 13) (tgt := 26) dX4_menderOf_13 (by decide) (fun c1 => ?_) (fun c1 => ?_)
    · refine g_iload_n h (pc := 26) dX4_menderOf_26 3 rfl ?_
      exact hret _ dX4_menderOf_27 rfl (by rw [← hm, mo, if_neg c1])
    · have h0 : 1 ≤ x := by
        rcases Nat.eq_zero_or_pos x with h0 | h0
        · subst h0
          exact absurd c1 (hz.m0 hk)
        · exact h0
      have h4 := hz.lt h0 h2
      refine g_aload_n h (pc := 16) dX4_menderOf_16 0 rfl ?_
      refine g_get h (pc := 17) dX4_menderOf_17 iX4_menderOf_4 0 rfl rfl 6 (by decide) fX4_menderOf_26 rfl ?_
      refine g_iload_n h (pc := 20) dX4_menderOf_20 3 rfl ?_
      refine g_iald h (pc := 21) (v := nI (upx Z x)) dX4_menderOf_21 4 rfl (vp_in_nI (by omega) (by omega)) (by rw [nI_clamp (by omega)]; exact hz.up h0 h2) ?_
      refine g_istore_n h (pc := 22) dX4_menderOf_22 (by decide) rfl ?_
      refine g_goto h (pc := 23) (tgt := 2) dX4_menderOf_23 (by decide) ?_
      exact ih (upx Z x) (by omega) (by omega) (by rw [← hm, mo, if_pos c1])

theorem iX4_due_4 : ∀ w ∈ wsX40, w ∈ wsX4_due := by decide +kernel
theorem fX4_due_74 : Cond.fieldLink RX4 74 "SpareShelvesModel" "dueSort" "[I" ∈ wsX4_due := by decide +kernel
theorem fX4_due_113 : Cond.fieldLink RX4 113 "SpareShelvesModel" "dues" "I" ∈ wsX4_due := by decide +kernel
theorem fX4_due_77 : Cond.fieldLink RX4 77 "SpareShelvesModel" "dueShelf" "[I" ∈ wsX4_due := by decide +kernel
theorem fX4_due_80 : Cond.fieldLink RX4 80 "SpareShelvesModel" "dueKind" "[I" ∈ wsX4_due := by decide +kernel
theorem fX4_due_83 : Cond.fieldLink RX4 83 "SpareShelvesModel" "dueHow" "[I" ∈ wsX4_due := by decide +kernel
theorem fX4_due_86 : Cond.fieldLink RX4 86 "SpareShelvesModel" "dueTime" "[I" ∈ wsX4_due := by decide +kernel
theorem fX4_due_116 : Cond.fieldLink RX4 116 "SpareShelvesModel" "time" "I" ∈ wsX4_due := by decide +kernel
set_option maxHeartbeats 4000000 in
set_option maxRecDepth 100000 in
theorem m_due (l : Launch) (D : va_G) (cI cO : ClassId) (a : Nat → Nat) (v : MX) (Z : Sg) (d : Dy) (hRM : RM d v) (ns nk : Nat) (hz : Zv ns nk Z) (hc : d.2.2.1.length < 6000) (so how bh : Int32) (s k : Nat) : CVm l yX4_due wsX4_due 0 0 D cI cO a v Z d [.int so, .int (nI s), .int (nI k), .int how, .int bh] Z (due Z d so s k how bh) := by
  unfold CVm
  refine CV.of (cc := cX4_due) (maxL := 6) (by decide) rfl (Nat.le_of_ble_eq_true rfl) ?_
  intro C hgL hgD hw h hret
  have hn8 := hz.n8
  have hk8 := hz.k8
  refine g_aload_n h (pc := 0) dX4_due_0 0 rfl ?_
  refine g_get h (pc := 1) dX4_due_1 iX4_due_4 0 rfl rfl 25 (by decide) fX4_due_74 rfl ?_
  refine g_aload_n h (pc := 4) dX4_due_4 0 rfl ?_
  refine g_get h (pc := 5) dX4_due_5 iX4_due_4 0 rfl rfl 24 (by decide) fX4_due_113 rfl ?_
  refine g_iload_n h (pc := 8) dX4_due_8 1 rfl ?_
  refine g_iast h hw (pc := 9) (ws' := mw cI a (vu v 5 d.2.2.1.length so) Z d.1 (nI d.2.1.length) (nI d.2.2.1.length)) dX4_due_9 20 rfl (vp_in_nI (by omega) (by omega)) (by rw [nI_clamp (by omega)]; rfl) ?_
  refine g_aload_n h (pc := 10) dX4_due_10 0 rfl ?_
  refine g_get h (pc := 11) dX4_due_11 iX4_due_4 0 rfl rfl 26 (by decide) fX4_due_77 rfl ?_
  refine g_aload_n h (pc := 14) dX4_due_14 0 rfl ?_
  refine g_get h (pc := 15) dX4_due_15 iX4_due_4 0 rfl rfl 24 (by decide) fX4_due_113 rfl ?_
  refine g_iload_n h (pc := 18) dX4_due_18 2 rfl ?_
  refine g_iast h hw (pc := 19) (ws' := mw cI a (vu (vu v 5 d.2.2.1.length so) 6 d.2.2.1.length (nI s)) Z d.1 (nI d.2.1.length) (nI d.2.2.1.length)) dX4_due_19 21 rfl (vp_in_nI (by omega) (by omega)) (by rw [nI_clamp (by omega)]; rfl) ?_
  refine g_aload_n h (pc := 20) dX4_due_20 0 rfl ?_
  refine g_get h (pc := 21) dX4_due_21 iX4_due_4 0 rfl rfl 27 (by decide) fX4_due_80 rfl ?_
  refine g_aload_n h (pc := 24) dX4_due_24 0 rfl ?_
  refine g_get h (pc := 25) dX4_due_25 iX4_due_4 0 rfl rfl 24 (by decide) fX4_due_113 rfl ?_
  refine g_iload_n h (pc := 28) dX4_due_28 3 rfl ?_
  refine g_iast h hw (pc := 29) (ws' := mw cI a (vu (vu (vu v 5 d.2.2.1.length so) 6 d.2.2.1.length (nI s)) 7 d.2.2.1.length (nI k)) Z d.1 (nI d.2.1.length) (nI d.2.2.1.length)) dX4_due_29 22 rfl (vp_in_nI (by omega) (by omega)) (by rw [nI_clamp (by omega)]; rfl) ?_
  refine g_aload_n h (pc := 30) dX4_due_30 0 rfl ?_
  refine g_get h (pc := 31) dX4_due_31 iX4_due_4 0 rfl rfl 28 (by decide) fX4_due_83 rfl ?_
  refine g_aload_n h (pc := 34) dX4_due_34 0 rfl ?_
  refine g_get h (pc := 35) dX4_due_35 iX4_due_4 0 rfl rfl 24 (by decide) fX4_due_113 rfl ?_
  refine g_iload h (pc := 38) dX4_due_38 4 rfl ?_
  refine g_iast h hw (pc := 40) (ws' := mw cI a (vu (vu (vu (vu v 5 d.2.2.1.length so) 6 d.2.2.1.length (nI s)) 7 d.2.2.1.length (nI k)) 8 d.2.2.1.length how) Z d.1 (nI d.2.1.length) (nI d.2.2.1.length)) dX4_due_40 23 rfl (vp_in_nI (by omega) (by omega)) (by rw [nI_clamp (by omega)]; rfl) ?_
  refine g_aload_n h (pc := 41) dX4_due_41 0 rfl ?_
  refine g_get h (pc := 42) dX4_due_42 iX4_due_4 0 rfl rfl 29 (by decide) fX4_due_86 rfl ?_
  refine g_aload_n h (pc := 45) dX4_due_45 0 rfl ?_
  refine g_get h (pc := 46) dX4_due_46 iX4_due_4 0 rfl rfl 24 (by decide) fX4_due_113 rfl ?_
  refine g_aload_n h (pc := 49) dX4_due_49 0 rfl ?_
  refine g_get h (pc := 50) dX4_due_50 iX4_due_4 0 rfl rfl 12 (by decide) fX4_due_116 rfl ?_
  refine g_iload h (pc := 53) dX4_due_53 5 rfl ?_
  refine g_iadd h (pc := 55) dX4_due_55  ?_
  refine g_iast h hw (pc := 56) (ws' := mw cI a (vu (vu (vu (vu (vu v 5 d.2.2.1.length so) 6 d.2.2.1.length (nI s)) 7 d.2.2.1.length (nI k)) 8 d.2.2.1.length how) 9 d.2.2.1.length (Z 14 0 2 + bh)) Z d.1 (nI d.2.1.length) (nI d.2.2.1.length)) dX4_due_56 24 rfl (vp_in_nI (by omega) (by omega)) (by rw [nI_clamp (by omega)]; rfl) ?_
  refine g_aload_n h (pc := 57) dX4_due_57 0 rfl ?_
  refine g_dup h (pc := 58) dX4_due_58 rfl ?_
  refine g_get h (pc := 59) dX4_due_59 iX4_due_4 0 rfl rfl 24 (by decide) fX4_due_113 rfl ?_
  refine g_iconst h (pc := 62) (v := 1) dX4_due_62 (by decide) ?_
  refine g_iadd h (pc := 63) dX4_due_63  ?_
  refine g_topi (y := nI (due Z d so s k how bh).2.2.1.length) (by rw [nI_1]; unfold due dU; rw [List.length_append]; rfl) ?_
  refine g_put h hw (pc := 64) (ws' := mw cI a (vu (vu (vu (vu (vu v 5 d.2.2.1.length so) 6 d.2.2.1.length (nI s)) 7 d.2.2.1.length (nI k)) 8 d.2.2.1.length how) 9 d.2.2.1.length (Z 14 0 2 + bh)) Z d.1 (nI d.2.1.length) (nI (due Z d so s k how bh).2.2.1.length)) (ty := .int) dX4_due_64 iX4_due_4 tyX4 tyX4_ok nmX4 0 rfl rfl 24 (by decide) fX4_due_113 rfl (by decide +kernel) rfl rfl (Nat.le_of_ble_eq_true rfl) rfl ?_
  exact hret (vp5 v 5 d.2.2.1.length so (nI s) (nI k) how (Z 14 0 2 + bh)) dX4_due_67 (hRM.pushU (nI s) (nI k) so (Z 14 0 2 + bh) how) rfl (Nat.le_refl _) (Nat.le_refl _)
