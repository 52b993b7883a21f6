theorem outB_in {n lo hi : Int32} {a b : Nat} (h : outB n lo hi = false) (h1 : lo = nI a) (h2 : hi = nI b) (hb : b < 2 ^ 30) (hab : a ≤ b) : ∃ j : Nat, a ≤ j ∧ j ≤ b ∧ n = nI j := by
  subst h1
  subst h2
  have h3 := of_decide_eq_false h
  have h4 : ¬ n < nI a := fun q => h3 (Or.inl q)
  have h5 : ¬ nI b < n := fun q => h3 (Or.inr q)
  rw [Int32.lt_iff_toInt_lt, nI_toInt (by omega)] at h4
  rw [Int32.lt_iff_toInt_lt, nI_toInt (by omega)] at h5
  obtain ⟨j, hj, e⟩ := vp_in_of (x := n) (n := b + 1) (vp_in_iff.mpr ⟨by omega, by omega⟩) (by omega)
  subst e
  rw [nI_toInt (by omega)] at h4
  exact ⟨j, by omega, by omega, rfl⟩

theorem iX3_stock_3 : ∀ w ∈ wsX30, w ∈ wsX3_stock := by decide +kernel
theorem fX3_stock_10 : Cond.fieldLink RX3 10 "SpareShelves" "kinds" "LSpareShelves$Kinds;" ∈ wsX3_stock := by decide +kernel
theorem iX3_stock_0 : ∀ w ∈ wsX00, w ∈ wsX3_stock := by decide +kernel
theorem fX3_stock_91 : Cond.fieldLink RX3 91 "SpareShelves$Kinds" "bought" "[I" ∈ wsX3_stock := by decide +kernel
theorem fX3_stock_25 : Cond.fieldLink RX3 25 "SpareShelves" "good" "[[I" ∈ wsX3_stock := by decide +kernel
set_option maxHeartbeats 4000000 in
set_option maxRecDepth 100000 in
theorem c_stock (l : Launch) (D : va_G) (cI cO : ClassId) (a : Nat → Nat) (u : UX) (Z : Sg) (d : Dy) (hRC : RC d u) (ns nk : Nat) (hz : Zv ns nk Z) (t : Nat) (hzx : Zx ns nk t Z) (hd : Dv ns nk Z (t + 1) d) (hph : Ph d ≤ 20000) (x y m : Int32) : CIc l yX3_stock wsX3_stock 7 250 D cI cO a u Z d [.int x, .int y, .int m] (stockP ns nk Z d x y m).1 (stockP ns nk Z d x y m).2.1 (stockP ns nk Z d x y m).2.2 := by
  unfold CIc
  refine CI.of (cc := cX3_stock) (maxL := 5) (rt := .int) (by decide) rfl (Nat.le_of_ble_eq_true rfl) ?_
  intro C hgL hgD hw h hret
  have hn8 := hz.n8
  have hk8 := hz.k8
  cases hp : (isIn x ns && isIn y nk) with
  | false =>
    refine g_aload_n h (pc := 0) dX3_stock_0 0 rfl ?_
    refine g_iload_n h (pc := 1) dX3_stock_1 1 rfl ?_
    refine g_iload_n h (pc := 2) dX3_stock_2 2 rfl ?_
    refine g_callR h (pc := 3) (As := [.int x, .int y]) (st := []) dX3_stock_3 (c_noplace (gL C) (gD C) cI cO a u Z d hRC ns nk hz x y) [0, 1, 2, 3, 4, 5, 6, 7, 8, 9, 10, 11, 12, 13, 14, 15, 16, 17, 18, 19, 20, 21, 22, 23, 24, 25, 26, 27, 28, 29, 30, 31, 32, 33, 34, 35, 36, 37, 38, 39, 40, 41, 42, 43, 44, 45] rfl (by decide) gX3_stock_X3_isNoPlace rfl (q0 := 0) rfl rfl (show nPar yX3_isNoPlace RX3 2 = true by decide +kernel) ⟨Nat.le_of_ble_eq_true rfl, Nat.le_of_ble_eq_true rfl⟩ rfl (Nat.le_of_ble_eq_true rfl) ⟨Nat.zero_le _, Nat.zero_le _⟩ (fun r hr => ?_)
    subst hr
    rw [hp]
    refine g_topi (y := 1) rfl ?_
    refine g_if_eq_f h (pc := 6) (tgt := 11) dX3_stock_6 (by decide) (by decide) ?_
    refine g_iconst h (pc := 9) (v := (-1)) dX3_stock_9 (by decide) ?_
    have e1 : (stockP ns nk Z d x y m) = (-1, Z, d) := by unfold stockP; rw [if_pos hp]
    rw [e1] at hret
    exact hret _ u dX3_stock_10 rfl ⟨rfl, hRC⟩ rfl (Nat.zero_le _) (Nat.zero_le _)
  | true =>
    refine g_aload_n h (pc := 0) dX3_stock_0 0 rfl ?_
    refine g_iload_n h (pc := 1) dX3_stock_1 1 rfl ?_
    refine g_iload_n h (pc := 2) dX3_stock_2 2 rfl ?_
    refine g_callR h (pc := 3) (As := [.int x, .int y]) (st := []) dX3_stock_3 (c_noplace (gL C) (gD C) cI cO a u Z d hRC ns nk hz x y) [0, 1, 2, 3, 4, 5, 6, 7, 8, 9, 10, 11, 12, 13, 14, 15, 16, 17, 18, 19, 20, 21, 22, 23, 24, 25, 26, 27, 28, 29, 30, 31, 32, 33, 34, 35, 36, 37, 38, 39, 40, 41, 42, 43, 44, 45] rfl (by decide) gX3_stock_X3_isNoPlace rfl (q0 := 0) rfl rfl (show nPar yX3_isNoPlace RX3 2 = true by decide +kernel) ⟨Nat.le_of_ble_eq_true rfl, Nat.le_of_ble_eq_true rfl⟩ rfl (Nat.le_of_ble_eq_true rfl) ⟨Nat.zero_le _, Nat.zero_le _⟩ (fun r hr => ?_)
    subst hr
    rw [hp]
    refine g_topi (y := 0) rfl ?_
    refine g_if_eq_t h (pc := 6) (tgt := 11) dX3_stock_6 (by decide) rfl ?_
    have hpp := Bool.and_eq_true_iff.mp hp
    obtain ⟨s, hs, rfl⟩ := isIn_of (by omega) hpp.1
    obtain ⟨k, hk, rfl⟩ := isIn_of (by omega) hpp.2
    have ts : tN (nI s) = s := nI_clamp (by omega)
    have tk : tN (nI k) = k := nI_clamp (by omega)
    refine g_iload_n h (pc := 11) dX3_stock_11 3 rfl ?_
    refine g_iconst h (pc := 12) (v := 1) dX3_stock_12 (by decide) ?_
    refine g_bipush h (pc := 13) (v := 9) dX3_stock_13 (by decide) ?_
    refine g_scallR h (pc := 15) (As := [.int m, .int (1), .int (9)]) (st := []) dX3_stock_15 (c_out (gL C) (gD C) cI cO m (1) (9)) [] rfl (by decide) gX3_stock_X3_isOutside rfl (show nPar yX3_isOutside RX3 3 = true by decide +kernel) ⟨Nat.le_of_ble_eq_true rfl, Nat.le_of_ble_eq_true rfl⟩ rfl (Nat.le_of_ble_eq_true rfl) ⟨Nat.zero_le _, Nat.zero_le _⟩ (fun r hr => ?_)
    subst hr
    cases ho : outB m 1 9 with
    | true =>
      refine g_topi (y := 1) rfl ?_
      refine g_if_eq_f h (pc := 18) (tgt := 24) dX3_stock_18 (by decide) (by decide) ?_
      refine g_bipush h (pc := 21) (v := (-2)) dX3_stock_21 (by decide) ?_
      have e1 : (stockP ns nk Z d (nI s) (nI k) m) = (-2, Z, d) := by unfold stockP; rw [hp, if_neg (by decide), if_pos ho]
      rw [e1] at hret
      exact hret _ u dX3_stock_23 rfl ⟨rfl, hRC⟩ rfl (Nat.zero_le _) (Nat.zero_le _)
    | false =>
      refine g_topi (y := 0) rfl ?_
      refine g_if_eq_t h (pc := 18) (tgt := 24) dX3_stock_18 (by decide) rfl ?_
      refine g_aload_n h (pc := 24) dX3_stock_24 0 rfl ?_
      refine g_get h (pc := 25) dX3_stock_25 iX3_stock_3 0 rfl rfl 0 (by decide) fX3_stock_10 rfl ?_
      refine g_get h (pc := 28) dX3_stock_28 iX3_stock_0 1 rfl rfl 3 (by decide) fX3_stock_91 rfl ?_
      refine g_iload_n h (pc := 31) dX3_stock_31 2 rfl ?_
      refine g_iald h (pc := 32) (v := d.1 9 0 k) dX3_stock_32 5 rfl (vp_in_nI (by omega) (by omega)) (by rw [nI_clamp (by omega)]) ?_
      refine g_iload_n h (pc := 33) dX3_stock_33 3 rfl ?_
      refine g_iadd h (pc := 34) dX3_stock_34  ?_
      refine g_sipush h (pc := 35) (v := 200) dX3_stock_35 (by decide) ?_
      by_cases hfu : 200 < d.1 9 0 k + m
      · refine g_icmp_le_f h (pc := 38) (tgt := 44) dX3_stock_38 (by decide) (Int32.not_le.mpr hfu) ?_
        refine g_bipush h (pc := 41) (v := (-4)) dX3_stock_41 (by decide) ?_
        have e1 : (stockP ns nk Z d (nI s) (nI k) m) = (-4, Z, d) := by unfold stockP; rw [hp, if_neg (by decide), if_neg (by rw [ho]; decide), tk, if_pos hfu]
        rw [e1] at hret
        exact hret _ u dX3_stock_43 rfl ⟨rfl, hRC⟩ rfl (Nat.zero_le _) (Nat.zero_le _)
      · refine g_icmp_le_t h (pc := 38) (tgt := 44) dX3_stock_38 (by decide) (Int32.not_lt.mp hfu) ?_
        obtain ⟨j, hj1, hj2, rfl⟩ := outB_in (a := 1) (b := 9) ho rfl rfl (by omega) (by omega)
        have tj : tN (nI j) = j := nI_clamp (by omega)
        have e1 : (stockP ns nk Z d (nI s) (nI k) (nI j)) = ((landsN Z s k j d).1 7 s k, Z, (landsN Z s k j d)) := by unfold stockP; rw [hp, if_neg (by decide), if_neg (by rw [ho]; decide), tk, ts, tj, if_neg hfu]
        have ef : cp (stockP ns nk Z d (nI s) (nI k) (nI j)).2.2 = cp (landsN Z s k j d) := by rw [e1]
        rw [e1] at hret
        refine g_iconst h (pc := 44) (v := 0) dX3_stock_44 (by decide) ?_
        refine g_istore h (pc := 45) dX3_stock_45 (by decide) rfl ?_
        refine g_wid (k' := cp d - cp d) (n' := 2 * (cp d - cp d)) (by omega) (by omega) ?_
        suffices loop : ∀ (n i : Nat) (d1 : Dy) (u1 : UX), i + n = j → landsN Z s k n d1 = (landsN Z s k j d) → RC d1 u1 → cp d ≤ cp d1 → Dv ns nk Z (t + 1) d1 → Ph d1 ≤ 20000 → GG C 5 (cw cI cO a u1 Z d1) (cp d1 - cp d) (2 * (cp d1 - cp d)) 47 [(0, .ref (a 0)), (1, .int (nI s)), (2, .int (nI k)), (3, .int (nI j)), (4, .int (nI i))] [] from loop j 0 d u (by omega) rfl hRC (Nat.le_refl _) hd hph
        intro n
        induction n with
        | zero =>
          intro i d1 u1 h1 hm hR1 hc1 hd1 hp1
          refine g_iload h (pc := 47) dX3_stock_47 4 rfl ?_
          refine g_iload_n h (pc := 49) dX3_stock_49 3 rfl ?_
          refine g_icmp_ge_t h (pc := 50) (tgt := 78) dX3_stock_50 (by decide) (nI_le (by omega) (by omega)) ?_
          rw [landsN] at hm
          rw [← hm] at hret
          refine g_aload_n h (pc := 78) dX3_stock_78 0 rfl ?_
          refine g_get h (pc := 79) dX3_stock_79 iX3_stock_3 0 rfl rfl 2 (by decide) fX3_stock_25 rfl ?_
          refine g_iload_n h (pc := 82) dX3_stock_82 1 rfl ?_
          refine g_aald h (pc := 83) (v := a (23 + s)) dX3_stock_83 22 rfl (vp_in_nI (by omega) (by omega)) (by rw [nI_clamp (by omega)]) ?_
          refine g_iload_n h (pc := 84) dX3_stock_84 2 rfl ?_
          refine g_iald h (pc := 85) (v := d1.1 7 s k) dX3_stock_85 (23 + s) (cw_g cI cO a u1 Z d1 (by omega)) (vp_in_nI (by omega) (by omega)) (by rw [nI_clamp (by omega)]) ?_
          exact hret _ u1 dX3_stock_86 rfl ⟨rfl, hR1⟩ rfl (Nat.le_refl _) (Nat.le_refl _)
        | succ n ih =>
          intro i d1 u1 h1 hm hR1 hc1 hd1 hp1
          rw [landsN] at hm
          obtain ⟨k1, k2, -⟩ := lands_ok hzx (inc d1 9 k) s k hs hk (Nat.le_refl _) hd1
          have e5 : cp (inc d1 9 k) = cp d1 := rfl
          have e6 : sz (inc d1 9 k) = sz d1 := rfl
          have e7 : Ph (inc d1 9 k) = Ph d1 := rfl
          have e8 := cpl_lands Z (inc d1 9 k) s k
          have e9 : cp (lands Z (inc d1 9 k) s k) ≤ cp (landsN Z s k j d) := by rw [← hm]; exact cpl_landsN Z s k n _
          have e10 := Ph_sz d1
          refine g_iload h (pc := 47) dX3_stock_47 4 rfl ?_
          refine g_iload_n h (pc := 49) dX3_stock_49 3 rfl ?_
          refine g_icmp_ge_f h (pc := 50) (tgt := 78) dX3_stock_50 (by decide) (nI_ge (by omega) (by omega)) ?_
          refine g_aload_n h (pc := 53) dX3_stock_53 0 rfl ?_
          refine g_get h (pc := 54) dX3_stock_54 iX3_stock_3 0 rfl rfl 0 (by decide) fX3_stock_10 rfl ?_
          refine g_get h (pc := 57) dX3_stock_57 iX3_stock_0 1 rfl rfl 3 (by decide) fX3_stock_91 rfl ?_
          refine g_iload_n h (pc := 60) dX3_stock_60 2 rfl ?_
          refine g_dup2 h (pc := 61) dX3_stock_61 rfl rfl ?_
          refine g_iald h (pc := 62) (v := d1.1 9 0 k) dX3_stock_62 5 rfl (vp_in_nI (by omega) (by omega)) (by rw [nI_clamp (by omega)]) ?_
          refine g_iconst h (pc := 63) (v := 1) dX3_stock_63 (by decide) ?_
          refine g_iadd h (pc := 64) dX3_stock_64  ?_
          refine g_iast h hw (pc := 65) (ws' := cw cI cO a u1 Z (inc d1 9 k)) dX3_stock_65 5 rfl (vp_in_nI (by omega) (by omega)) (by rw [nI_clamp (by omega)]; rfl) ?_
          refine g_aload_n h (pc := 66) dX3_stock_66 0 rfl ?_
          refine g_iload_n h (pc := 67) dX3_stock_67 1 rfl ?_
          refine g_iload_n h (pc := 68) dX3_stock_68 2 rfl ?_
          refine g_callV h (pc := 69) (As := [.int (nI s), .int (nI k)]) (st := []) dX3_stock_69 (c_lands (gL C) (gD C) cI cO a u1 Z (inc d1 9 k) hR1 ns nk hz (by omega) hd1.1 s k hs hk) hw gX3_stock_X3_lands rfl (q0 := 0) rfl rfl (show nPar yX3_lands RX3 2 = true by decide +kernel) ⟨Nat.le_of_ble_eq_true rfl, Nat.le_of_ble_eq_true rfl⟩ rfl (Nat.le_of_ble_eq_true rfl) ⟨by show _ ≤ cp (stockP ns nk Z d (nI s) (nI k) (nI j)).2.2 - cp d; omega, by show _ ≤ 2 * (cp (stockP ns nk Z d (nI s) (nI k) (nI j)).2.2 - cp d); omega⟩ (fun u2 hR2 => ?_)
          refine g_wid (k' := cp (lands Z (inc d1 9 k) s k) - cp d) (n' := 2 * (cp (lands Z (inc d1 9 k) s k) - cp d)) (by omega) (by omega) ?_
          refine g_iinc h (pc := 72) dX3_stock_72 4 rfl (nI_1 i) (by decide) rfl ?_
          refine g_goto h (pc := 75) (tgt := 47) dX3_stock_75 (by decide) ?_
          exact ih (i + 1) _ u2 (by omega) hm hR2 (by omega) k2 (by omega)

theorem iX3_fails_3 : ∀ w ∈ wsX30, w ∈ wsX3_fails := by decide +kernel
theorem fX3_fails_41 : Cond.fieldLink RX3 41 "SpareShelves" "asks" "LSpareShelves$Line;" ∈ wsX3_fails := by decide +kernel
theorem iX3_fails_1 : ∀ w ∈ wsX10, w ∈ wsX3_fails := by decide +kernel
theorem fX3_fails_98 : Cond.fieldLink RX3 98 "SpareShelves$Line" "size" "I" ∈ wsX3_fails := by decide +kernel
theorem fX3_fails_45 : Cond.fieldLink RX3 45 "SpareShelves" "dues" "LSpareShelves$Line;" ∈ wsX3_fails := by decide +kernel
theorem fX3_fails_10 : Cond.fieldLink RX3 10 "SpareShelves" "kinds" "LSpareShelves$Kinds;" ∈ wsX3_fails := by decide +kernel
theorem iX3_fails_0 : ∀ w ∈ wsX00, w ∈ wsX3_fails := by decide +kernel
theorem fX3_fails_102 : Cond.fieldLink RX3 102 "SpareShelves$Kinds" "broke" "[I" ∈ wsX3_fails := by decide +kernel
theorem fX3_fails_105 : Cond.fieldLink RX3 105 "SpareShelves$Kinds" "scrapped" "[I" ∈ wsX3_fails := by decide +kernel
theorem fX3_fails_91 : Cond.fieldLink RX3 91 "SpareShelves$Kinds" "bought" "[I" ∈ wsX3_fails := by decide +kernel
theorem fX3_fails_48 : Cond.fieldLink RX3 48 "SpareShelves" "time" "I" ∈ wsX3_fails := by decide +kernel
theorem fX3_fails_66 : Cond.fieldLink RX3 66 "SpareShelves$Kinds" "buyDays" "[I" ∈ wsX3_fails := by decide +kernel
theorem fX3_fails_19 : Cond.fieldLink RX3 19 "SpareShelves" "tree" "LSpareShelves$Tree;" ∈ wsX3_fails := by decide +kernel
theorem fX3_fails_69 : Cond.fieldLink RX3 69 "SpareShelves$Kinds" "core" "[I" ∈ wsX3_fails := by decide +kernel
set_option maxHeartbeats 4000000 in
set_option maxRecDepth 100000 in
theorem c_fails (l : Launch) (D : va_G) (cI cO : ClassId) (a : Nat → Nat) (u : UX) (Z : Sg) (d : Dy) (hRC : RC d u) (ns nk : Nat) (hz : Zv ns nk Z) (t : Nat) (hzx : Zx ns nk t Z) (hph : Ph d ≤ 20000) (x y how : Int32) : CIc l yX3_fails wsX3_fails 7 250 D cI cO a u Z d [.int x, .int y, .int how] (failsP ns nk Z d x y how).1 (failsP ns nk Z d x y how).2.1 (failsP ns nk Z d x y how).2.2 := by
  unfold CIc
  refine CI.of (cc := cX3_fails) (maxL := 5) (rt := .int) (by decide) rfl (Nat.le_of_ble_eq_true rfl) ?_
  intro C hgL hgD hw h hret
  have hn8 := hz.n8
  have hk8 := hz.k8
  cases hp : (isIn x ns && isIn y nk) with
  | false =>
    refine g_aload_n h (pc := 0) dX3_fails_0 0 rfl ?_
    refine g_iload_n h (pc := 1) dX3_fails_1 1 rfl ?_
    refine g_iload_n h (pc := 2) dX3_fails_2 2 rfl ?_
    refine g_callR h (pc := 3) (As := [.int x, .int y]) (st := []) dX3_fails_3 (c_noplace (gL C) (gD C) cI cO a u Z d hRC ns nk hz x y) [0, 1, 2, 3, 4, 5, 6, 7, 8, 9, 10, 11, 12, 13, 14, 15, 16, 17, 18, 19, 20, 21, 22, 23, 24, 25, 26, 27, 28, 29, 30, 31, 32, 33, 34, 35, 36, 37, 38, 39, 40, 41, 42, 43, 44, 45] rfl (by decide) gX3_fails_X3_isNoPlace rfl (q0 := 0) rfl rfl (show nPar yX3_isNoPlace RX3 2 = true by decide +kernel) ⟨Nat.le_of_ble_eq_true rfl, Nat.le_of_ble_eq_true rfl⟩ rfl (Nat.le_of_ble_eq_true rfl) ⟨Nat.zero_le _, Nat.zero_le _⟩ (fun r hr => ?_)
    subst hr
    rw [hp]
    refine g_topi (y := 1) rfl ?_
    refine g_if_eq_f h (pc := 6) (tgt := 11) dX3_fails_6 (by decide) (by decide) ?_
    refine g_iconst h (pc := 9) (v := (-1)) dX3_fails_9 (by decide) ?_
    have e1 : (failsP ns nk Z d x y how) = (-1, Z, d) := by unfold failsP; rw [if_pos hp]
    rw [e1] at hret
    exact hret _ u dX3_fails_10 rfl ⟨rfl, hRC⟩ rfl (Nat.zero_le _) (Nat.zero_le _)
  | true =>
    refine g_aload_n h (pc := 0) dX3_fails_0 0 rfl ?_
    refine g_iload_n h (pc := 1) dX3_fails_1 1 rfl ?_
    refine g_iload_n h (pc := 2) dX3_fails_2 2 rfl ?_
    refine g_callR h (pc := 3) (As := [.int x, .int y]) (st := []) dX3_fails_3 (c_noplace (gL C) (gD C) cI cO a u Z d hRC ns nk hz x y) [0, 1, 2, 3, 4, 5, 6, 7, 8, 9, 10, 11, 12, 13, 14, 15, 16, 17, 18, 19, 20, 21, 22, 23, 24, 25, 26, 27, 28, 29, 30, 31, 32, 33, 34, 35, 36, 37, 38, 39, 40, 41, 42, 43, 44, 45] rfl (by decide) gX3_fails_X3_isNoPlace rfl (q0 := 0) rfl rfl (show nPar yX3_isNoPlace RX3 2 = true by decide +kernel) ⟨Nat.le_of_ble_eq_true rfl, Nat.le_of_ble_eq_true rfl⟩ rfl (Nat.le_of_ble_eq_true rfl) ⟨Nat.zero_le _, Nat.zero_le _⟩ (fun r hr => ?_)
    subst hr
    rw [hp]
    refine g_topi (y := 0) rfl ?_
    refine g_if_eq_t h (pc := 6) (tgt := 11) dX3_fails_6 (by decide) rfl ?_
    have hpp := Bool.and_eq_true_iff.mp hp
    obtain ⟨s, hs, rfl⟩ := isIn_of (by omega) hpp.1
    obtain ⟨k, hk, rfl⟩ := isIn_of (by omega) hpp.2
    have ts : tN (nI s) = s := nI_clamp (by omega)
    have tk : tN (nI k) = k := nI_clamp (by omega)
    refine g_iload_n h (pc := 11) dX3_fails_11 3 rfl ?_
    refine g_iconst h (pc := 12) (v := 0) dX3_fails_12 (by decide) ?_
    refine g_iconst h (pc := 13) (v := 2) dX3_fails_13 (by decide) ?_
    refine g_scallR h (pc := 14) (As := [.int how, .int (0), .int (2)]) (st := []) dX3_fails_14 (c_out (gL C) (gD C) cI cO how (0) (2)) [] rfl (by decide) gX3_fails_X3_isOutside rfl (show nPar yX3_isOutside RX3 3 = true by decide +kernel) ⟨Nat.le_of_ble_eq_true rfl, Nat.le_of_ble_eq_true rfl⟩ rfl (Nat.le_of_ble_eq_true rfl) ⟨Nat.zero_le _, Nat.zero_le _⟩ (fun r hr => ?_)
    subst hr
    cases ho : outB how 0 2 with
    | true =>
      refine g_topi (y := 1) rfl ?_
      refine g_if_eq_f h (pc := 17) (tgt := 23) dX3_fails_17 (by decide) (by decide) ?_
      refine g_bipush h (pc := 20) (v := (-2)) dX3_fails_20 (by decide) ?_
      have e1 : (failsP ns nk Z d (nI s) (nI k) how) = (-2, Z, d) := by unfold failsP; rw [hp, if_neg (by decide), if_pos ho]
      rw [e1] at hret
      exact hret _ u dX3_fails_22 rfl ⟨rfl, hRC⟩ rfl (Nat.zero_le _) (Nat.zero_le _)
    | false =>
      refine g_topi (y := 0) rfl ?_
      refine g_if_eq_t h (pc := 17) (tgt := 23) dX3_fails_17 (by decide) rfl ?_
      refine g_iload_n h (pc := 23) dX3_fails_23 3 rfl ?_
      refine g_iconst h (pc := 24) (v := 1) dX3_fails_24 (by decide) ?_
      have hsz : sz d ≤ 20000 := Nat.le_trans (Ph_sz d) hph
      have hla : d.2.1.length ≤ sz d := Nat.le_add_right _ _
      have hlu : d.2.2.1.length ≤ sz d := Nat.le_add_left _ _
      have tl : ¬ (how = 1 ∧ Z 2 0 k = -1) → GG C 5 (cw cI cO a u Z d) 0 0 44 [(0, .ref (a 0)), (1, .int (nI s)), (2, .int (nI k)), (3, .int how)] [] := by
        intro hns
        refine g_aload_n h (pc := 44) dX3_fails_44 0 rfl ?_
        refine g_get h (pc := 45) dX3_fails_45 iX3_fails_3 0 rfl rfl 6 (by decide) fX3_fails_41 rfl ?_
        refine g_get h (pc := 48) dX3_fails_48 iX3_fails_1 42 rfl rfl 1 (by decide) fX3_fails_98 rfl ?_
        refine g_bipush h (pc := 51) (v := 100) dX3_fails_51 (by decide) ?_
        by_cases hf1 : 100 < d.2.1.length
        · refine g_icmp_gt_t h (pc := 53) (tgt := 68) dX3_fails_53 (by decide) (nI_lt (a := 100) hf1 (by omega)) ?_
          refine g_bipush h (pc := 68) (v := (-4)) dX3_fails_68 (by decide) ?_
          have e1 : (failsP ns nk Z d (nI s) (nI k) how) = (-4, Z, d) := by unfold failsP; rw [hp, if_neg (by decide), if_neg (by rw [ho]; decide), tk, if_neg hns, if_pos (Or.inl hf1)]
          rw [e1] at hret
          exact hret _ u dX3_fails_70 rfl ⟨rfl, hRC⟩ rfl (Nat.zero_le _) (Nat.zero_le _)
        · refine g_icmp_gt_f h (pc := 53) (tgt := 68) dX3_fails_53 (by decide) (nI_nlt (a := 100) (by omega) (by omega)) ?_
          refine g_aload_n h (pc := 56) dX3_fails_56 0 rfl ?_
          refine g_get h (pc := 57) dX3_fails_57 iX3_fails_3 0 rfl rfl 7 (by decide) fX3_fails_45 rfl ?_
          refine g_get h (pc := 60) dX3_fails_60 iX3_fails_1 44 rfl rfl 1 (by decide) fX3_fails_98 rfl ?_
          refine g_topi (y := nI d.2.2.1.length) (by rw [List.length_map]) ?_
          refine g_bipush h (pc := 63) (v := 100) dX3_fails_63 (by decide) ?_
          by_cases hf2 : 100 < d.2.2.1.length
          · refine g_icmp_le_f h (pc := 65) (tgt := 71) dX3_fails_65 (by decide) (nI_ge (a := 100) hf2 (by omega)) ?_
            refine g_bipush h (pc := 68) (v := (-4)) dX3_fails_68 (by decide) ?_
            have e1 : (failsP ns nk Z d (nI s) (nI k) how) = (-4, Z, d) := by unfold failsP; rw [hp, if_neg (by decide), if_neg (by rw [ho]; decide), tk, if_neg hns, if_pos (Or.inr hf2)]
            rw [e1] at hret
            exact hret _ u dX3_fails_70 rfl ⟨rfl, hRC⟩ rfl (Nat.zero_le _) (Nat.zero_le _)
          · refine g_icmp_le_t h (pc := 65) (tgt := 71) dX3_fails_65 (by decide) (nI_le (b := 100) (by omega) (by omega)) ?_
            have e1 : (failsP ns nk Z d (nI s) (nI k) how) = (if d.1 7 s k = 0 then 0 else 1, Z, (breaks Z d s k how)) := by unfold failsP; rw [hp, if_neg (by decide), if_neg (by rw [ho]; decide), tk, ts, if_neg hns, if_neg (fun q => q.elim hf1 hf2)]
            have ef : cp (failsP ns nk Z d (nI s) (nI k) how).2.2 = cp (breaks Z d s k how) := by rw [e1]
            rw [e1] at hret
            have m0 := cpl_machine Z d s k
            have m1 : cp (machine Z (inc d 13 k) s k) = cp (machine Z d s k) := by rw [mach_comm]; rfl
            have z0 := sz_machine Z d s k
            have z1 : sz (machine Z (inc d 13 k) s k) = sz (machine Z d s k) := by rw [mach_comm]; rfl
            refine g_aload_n h (pc := 71) dX3_fails_71 0 rfl ?_
            refine g_iload_n h (pc := 72) dX3_fails_72 1 rfl ?_
            refine g_iload_n h (pc := 73) dX3_fails_73 2 rfl ?_
            have mf : cp (machine Z (inc d 13 k) s k) ≤ cp (breaks Z d s k how) := by
              unfold breaks
              split
              · exact Nat.le_trans (cpl_ups Z k 0 8 s (inc (machine Z (inc d 13 k) s k) 10 k)) (cpl_due Z (inc (ups Z k 0 8 s (inc (machine Z (inc d 13 k) s k) 10 k)) 9 k) 2 0 k 0 (Z 1 0 k))
              · exact Nat.le_trans (cpl_back Z _ s k how) (cpl_ups _ _ _ _ _ _)
            refine g_callI h (pc := 74) (As := [.int (nI s), .int (nI k)]) (st := []) dX3_fails_74 (c_machine (gL C) (gD C) cI cO a u Z d hRC ns nk hz (by omega) s k hs hk) hw gX3_fails_X3_servesMachine rfl (q0 := 0) rfl rfl (show nPar yX3_servesMachine RX3 2 = true by decide +kernel) ⟨Nat.le_of_ble_eq_true rfl, Nat.le_of_ble_eq_true rfl⟩ rfl (Nat.le_of_ble_eq_true rfl) ⟨by show _ ≤ cp (failsP ns nk Z d (nI s) (nI k) how).2.2 - cp d; omega, by show _ ≤ 2 * (cp (failsP ns nk Z d (nI s) (nI k) how).2.2 - cp d); omega⟩ (fun r u2 hR2 => ?_)
            obtain ⟨rfl, hR2⟩ := hR2
            refine g_wid (k' := cp (machine Z d s k) - cp d) (n' := 2 * (cp (machine Z d s k) - cp d)) (by omega) (by omega) ?_
            refine g_istore h (pc := 77) dX3_fails_77 (by decide) rfl ?_
            refine g_aload_n h (pc := 79) dX3_fails_79 0 rfl ?_
            refine g_get h (pc := 80) dX3_fails_80 iX3_fails_3 0 rfl rfl 0 (by decide) fX3_fails_10 rfl ?_
            refine g_get h (pc := 83) dX3_fails_83 iX3_fails_0 1 rfl rfl 7 (by decide) fX3_fails_102 rfl ?_
            refine g_iload_n h (pc := 86) dX3_fails_86 2 rfl ?_
            refine g_dup2 h (pc := 87) dX3_fails_87 rfl rfl ?_
            refine g_iald h (pc := 88) (v := (machine Z d s k).1 13 0 k) dX3_fails_88 9 rfl (vp_in_nI (by omega) (by omega)) (by rw [nI_clamp (by omega)]) ?_
            refine g_iconst h (pc := 89) (v := 1) dX3_fails_89 (by decide) ?_
            refine g_iadd h (pc := 90) dX3_fails_90  ?_
            refine g_iast h hw (pc := 91) (ws' := cw cI cO a u2 Z (inc (machine Z d s k) 13 k)) dX3_fails_91 9 rfl (vp_in_nI (by omega) (by omega)) (by rw [nI_clamp (by omega)]; rfl) ?_
            refine g_eq (ws' := cw cI cO a u2 Z (machine Z (inc d 13 k) s k)) (by rw [mach_comm]) ?_
            have hR3 : RC (machine Z (inc d 13 k) s k) u2 := by rw [mach_comm]; exact hR2
            have ed : ∀ (u5 : UX), RC (breaks Z d s k how) u5 → GG C 5 (cw cI cO a u5 Z (breaks Z d s k how)) (cp (breaks Z d s k how) - cp d) (2 * (cp (breaks Z d s k how) - cp d)) 180 [(0, .ref (a 0)), (1, .int (nI s)), (2, .int (nI k)), (3, .int how), (4, .int (if d.1 7 s k = 0 then 0 else 1))] [] := by
              intro u5 hR5
              refine g_iload h (pc := 180) dX3_fails_180 4 rfl ?_
              by_cases hg0 : d.1 7 s k = 0
              · rw [if_pos hg0] at hret ⊢
                refine g_if_eq_t h (pc := 182) (tgt := 189) dX3_fails_182 (by decide) rfl ?_
                refine g_iconst h (pc := 189) (v := 0) dX3_fails_189 (by decide) ?_
                exact hret _ u5 dX3_fails_190 rfl ⟨rfl, hR5⟩ rfl (Nat.le_refl _) (Nat.le_refl _)
              · rw [if_neg hg0] at hret ⊢
                refine g_if_eq_f h (pc := 182) (tgt := 189) dX3_fails_182 (by decide) (by decide) ?_
                refine g_iconst h (pc := 185) (v := 1) dX3_fails_185 (by decide) ?_
                refine g_goto h (pc := 186) (tgt := 190) dX3_fails_186 (by decide) ?_
                exact hret _ u5 dX3_fails_190 rfl ⟨rfl, hR5⟩ rfl (Nat.le_refl _) (Nat.le_refl _)
            refine g_iload_n h (pc := 92) dX3_fails_92 3 rfl ?_
            refine g_iconst h (pc := 93) (v := 2) dX3_fails_93 (by decide) ?_
            by_cases h2 : how = 2
            · have e2 : (breaks Z d s k how) = (due Z (inc (ups Z k 0 8 s (inc (machine Z (inc d 13 k) s k) 10 k)) 9 k) 2 0 k 0 (Z 1 0 k)) := if_pos h2
              rw [e2] at ed mf
              have eg : cp (breaks Z d s k how) = cp (due Z (inc (ups Z k 0 8 s (inc (machine Z (inc d 13 k) s k) 10 k)) 9 k) 2 0 k 0 (Z 1 0 k)) := by rw [e2]
              have q1 : cp (inc (machine Z (inc d 13 k) s k) 10 k) = cp (machine Z (inc d 13 k) s k) := rfl
              have q2 := cpl_ups Z k 0 8 s (inc (machine Z (inc d 13 k) s k) 10 k)
              have q3 : cp (inc (ups Z k 0 8 s (inc (machine Z (inc d 13 k) s k) 10 k)) 9 k) = cp (ups Z k 0 8 s (inc (machine Z (inc d 13 k) s k) 10 k)) := rfl
              have q4 := cpl_due Z (inc (ups Z k 0 8 s (inc (machine Z (inc d 13 k) s k) 10 k)) 9 k) 2 0 k 0 (Z 1 0 k)
              have q5 : sz (inc (machine Z (inc d 13 k) s k) 10 k) = sz (machine Z (inc d 13 k) s k) := rfl
              have q6 := sz_ups Z k 0 8 s (inc (machine Z (inc d 13 k) s k) 10 k)
              have q7 : sz (inc (ups Z k 0 8 s (inc (machine Z (inc d 13 k) s k) 10 k)) 9 k) = sz (ups Z k 0 8 s (inc (machine Z (inc d 13 k) s k) 10 k)) := rfl
              have q8 : cp (dU (inc (ups Z k 0 8 s (inc (machine Z (inc d 13 k) s k) 10 k)) 9 k) (nI 0, nI k, 2, Z 14 0 2 + Z 1 0 k, 0)) = cp (due Z (inc (ups Z k 0 8 s (inc (machine Z (inc d 13 k) s k) 10 k)) 9 k) 2 0 k 0 (Z 1 0 k)) := rfl
              refine g_icmp_ne_f h (pc := 94) (tgt := 158) dX3_fails_94 (by decide) h2 ?_
              refine g_aload_n h (pc := 97) dX3_fails_97 0 rfl ?_
              refine g_get h (pc := 98) dX3_fails_98 iX3_fails_3 0 rfl rfl 0 (by decide) fX3_fails_10 rfl ?_
              refine g_get h (pc := 101) dX3_fails_101 iX3_fails_0 1 rfl rfl 4 (by decide) fX3_fails_105 rfl ?_
              refine g_iload_n h (pc := 104) dX3_fails_104 2 rfl ?_
              refine g_dup2 h (pc := 105) dX3_fails_105 rfl rfl ?_
              refine g_iald h (pc := 106) (v := (machine Z (inc d 13 k) s k).1 10 0 k) dX3_fails_106 6 rfl (vp_in_nI (by omega) (by omega)) (by rw [nI_clamp (by omega)]) ?_
              refine g_iconst h (pc := 107) (v := 1) dX3_fails_107 (by decide) ?_
              refine g_iadd h (pc := 108) dX3_fails_108  ?_
              refine g_iast h hw (pc := 109) (ws' := cw cI cO a u2 Z (inc (machine Z (inc d 13 k) s k) 10 k)) dX3_fails_109 6 rfl (vp_in_nI (by omega) (by omega)) (by rw [nI_clamp (by omega)]; rfl) ?_
              refine g_aload_n h (pc := 110) dX3_fails_110 0 rfl ?_
              refine g_iload_n h (pc := 111) dX3_fails_111 1 rfl ?_
              refine g_iload_n h (pc := 112) dX3_fails_112 2 rfl ?_
              refine g_iconst h (pc := 113) (v := 0) dX3_fails_113 (by decide) ?_
              refine g_callV h (pc := 114) (As := [.int (nI s), .int (nI k), .int (nI 0)]) (st := []) dX3_fails_114 (c_ups (gL C) (gD C) cI cO a u2 Z (inc (machine Z (inc d 13 k) s k) 10 k) hR3 ns nk hz (by omega) s k 0 hs hk (rch_0 hz 8 s hs (by omega))) hw gX3_fails_X3_asksGoUp rfl (q0 := 0) rfl rfl (show nPar yX3_asksGoUp RX3 3 = true by decide +kernel) ⟨Nat.le_of_ble_eq_true rfl, Nat.le_of_ble_eq_true rfl⟩ rfl (Nat.le_of_ble_eq_true rfl) ⟨by show _ ≤ cp (failsP ns nk Z d (nI s) (nI k) how).2.2 - cp d; omega, by show _ ≤ 2 * (cp (failsP ns nk Z d (nI s) (nI k) how).2.2 - cp d); omega⟩ (fun u3 hR4 => ?_)
              refine g_wid (k' := cp (ups Z k 0 8 s (inc (machine Z (inc d 13 k) s k) 10 k)) - cp d) (n' := 2 * (cp (ups Z k 0 8 s (inc (machine Z (inc d 13 k) s k) 10 k)) - cp d)) (by omega) (by omega) ?_
              refine g_aload_n h (pc := 117) dX3_fails_117 0 rfl ?_
              refine g_get h (pc := 118) dX3_fails_118 iX3_fails_3 0 rfl rfl 0 (by decide) fX3_fails_10 rfl ?_
              refine g_get h (pc := 121) dX3_fails_121 iX3_fails_0 1 rfl rfl 3 (by decide) fX3_fails_91 rfl ?_
              refine g_iload_n h (pc := 124) dX3_fails_124 2 rfl ?_
              refine g_dup2 h (pc := 125) dX3_fails_125 rfl rfl ?_
              refine g_iald h (pc := 126) (v := (ups Z k 0 8 s (inc (machine Z (inc d 13 k) s k) 10 k)).1 9 0 k) dX3_fails_126 5 rfl (vp_in_nI (by omega) (by omega)) (by rw [nI_clamp (by omega)]) ?_
              refine g_iconst h (pc := 127) (v := 1) dX3_fails_127 (by decide) ?_
              refine g_iadd h (pc := 128) dX3_fails_128  ?_
              refine g_iast h hw (pc := 129) (ws' := cw cI cO a u3 Z (inc (ups Z k 0 8 s (inc (machine Z (inc d 13 k) s k) 10 k)) 9 k)) dX3_fails_129 5 rfl (vp_in_nI (by omega) (by omega)) (by rw [nI_clamp (by omega)]; rfl) ?_
              refine g_aload_n h (pc := 130) dX3_fails_130 0 rfl ?_
              refine g_get h (pc := 131) dX3_fails_131 iX3_fails_3 0 rfl rfl 7 (by decide) fX3_fails_45 rfl ?_
              refine g_iconst h (pc := 134) (v := 0) dX3_fails_134 (by decide) ?_
              refine g_iload_n h (pc := 135) dX3_fails_135 2 rfl ?_
              refine g_iconst h (pc := 136) (v := 3) dX3_fails_136 (by decide) ?_
              refine g_aload_n h (pc := 137) dX3_fails_137 0 rfl ?_
              refine g_get h (pc := 138) dX3_fails_138 iX3_fails_3 0 rfl rfl 8 (by decide) fX3_fails_48 rfl ?_
              refine g_aload_n h (pc := 141) dX3_fails_141 0 rfl ?_
              refine g_get h (pc := 142) dX3_fails_142 iX3_fails_3 0 rfl rfl 0 (by decide) fX3_fails_10 rfl ?_
              refine g_get h (pc := 145) dX3_fails_145 iX3_fails_0 1 rfl rfl 1 (by decide) fX3_fails_66 rfl ?_
              refine g_iload_n h (pc := 148) dX3_fails_148 2 rfl ?_
              refine g_iald h (pc := 149) (v := Z 1 0 k) dX3_fails_149 3 rfl (vp_in_nI (by omega) (by omega)) (by rw [nI_clamp (by omega)]) ?_
              refine g_iadd h (pc := 150) dX3_fails_150  ?_
              refine g_iconst h (pc := 151) (v := (-1)) dX3_fails_151 (by decide) ?_
              refine g_dadd h hw (pc := 152) dX3_fails_152 (show RC (inc (ups Z k 0 8 s (inc (machine Z (inc d 13 k) s k) 10 k)) 9 k) u3 from hR4) (by have h9 : (inc (ups Z k 0 8 s (inc (machine Z (inc d 13 k) s k) 10 k)) 9 k).2.2.1.length ≤ sz (inc (ups Z k 0 8 s (inc (machine Z (inc d 13 k) s k) 10 k)) 9 k) := Nat.le_add_left _ _; omega) (nI 0, nI k, 2, Z 14 0 2 + Z 1 0 k, 0) rfl gX3_fails_X1_add ⟨Nat.le_of_ble_eq_true rfl, Nat.le_of_ble_eq_true rfl⟩ (Nat.le_of_ble_eq_true rfl) ⟨by show _ ≤ cp (failsP ns nk Z d (nI s) (nI k) how).2.2 - cp d; omega, by show _ ≤ 2 * (cp (failsP ns nk Z d (nI s) (nI k) how).2.2 - cp d); omega⟩ (fun u4 hR5 => ?_)
              refine g_wid (k' := cp (due Z (inc (ups Z k 0 8 s (inc (machine Z (inc d 13 k) s k) 10 k)) 9 k) 2 0 k 0 (Z 1 0 k)) - cp d) (n' := 2 * (cp (due Z (inc (ups Z k 0 8 s (inc (machine Z (inc d 13 k) s k) 10 k)) 9 k) 2 0 k 0 (Z 1 0 k)) - cp d)) (by show _ + (cp (due Z (inc (ups Z k 0 8 s (inc (machine Z (inc d 13 k) s k) 10 k)) 9 k) 2 0 k 0 (Z 1 0 k)) - cp (inc (ups Z k 0 8 s (inc (machine Z (inc d 13 k) s k) 10 k)) 9 k)) ≤ _; omega) (by show _ + 2 * (cp (due Z (inc (ups Z k 0 8 s (inc (machine Z (inc d 13 k) s k) 10 k)) 9 k) 2 0 k 0 (Z 1 0 k)) - cp (inc (ups Z k 0 8 s (inc (machine Z (inc d 13 k) s k) 10 k)) 9 k)) ≤ _; omega) ?_
              refine g_goto h (pc := 155) (tgt := 180) dX3_fails_155 (by decide) ?_
              exact ed u4 hR5
            · have e2 : (breaks Z d s k how) = (ups Z k (mOf Z k s) 8 s (back Z (machine Z (inc d 13 k) s k) s k how)) := if_neg h2
              rw [e2] at ed mf
              have eg : cp (breaks Z d s k how) = cp (ups Z k (mOf Z k s) 8 s (back Z (machine Z (inc d 13 k) s k) s k how)) := by rw [e2]
              have q1 := cpl_back Z (machine Z (inc d 13 k) s k) s k how
              have q2 := cpl_ups Z k (mOf Z k s) 8 s (back Z (machine Z (inc d 13 k) s k) s k how)
              have q5 := sz_back Z (machine Z (inc d 13 k) s k) s k how
              have hh : how = 0 ∨ (how = 1 ∧ ∃ c, c < nk ∧ Z 2 0 k = nI c) := by
                obtain ⟨j, j1, j2, rfl⟩ := outB_in (a := 0) (b := 2) ho rfl rfl (by omega) (by omega)
                rcases (show j = 0 ∨ j = 1 ∨ j = 2 by omega) with rfl | rfl | rfl
                · exact Or.inl rfl
                · exact Or.inr ⟨rfl, (hzx.core hk).resolve_left (fun q => hns ⟨rfl, q⟩)⟩
                · exact absurd rfl h2
              refine g_icmp_ne_t h (pc := 94) (tgt := 158) dX3_fails_94 (by decide) h2 ?_
              refine g_aload_n h (pc := 158) dX3_fails_158 0 rfl ?_
              refine g_iload_n h (pc := 159) dX3_fails_159 1 rfl ?_
              refine g_iload_n h (pc := 160) dX3_fails_160 2 rfl ?_
              refine g_iload_n h (pc := 161) dX3_fails_161 3 rfl ?_
              refine g_callV h (pc := 162) (As := [.int (nI s), .int (nI k), .int how]) (st := []) dX3_fails_162 (c_back (gL C) (gD C) cI cO a u2 Z (machine Z (inc d 13 k) s k) hR3 ns nk hz (by omega) s k hs hk how hh) hw gX3_fails_X3_goesBack rfl (q0 := 0) rfl rfl (show nPar yX3_goesBack RX3 3 = true by decide +kernel) ⟨Nat.le_of_ble_eq_true rfl, Nat.le_of_ble_eq_true rfl⟩ rfl (Nat.le_of_ble_eq_true rfl) ⟨by show _ ≤ cp (failsP ns nk Z d (nI s) (nI k) how).2.2 - cp d; omega, by show _ ≤ 2 * (cp (failsP ns nk Z d (nI s) (nI k) how).2.2 - cp d); omega⟩ (fun u3 hR4 => ?_)
              refine g_wid (k' := cp (back Z (machine Z (inc d 13 k) s k) s k how) - cp d) (n' := 2 * (cp (back Z (machine Z (inc d 13 k) s k) s k how) - cp d)) (by omega) (by omega) ?_
              refine g_aload_n h (pc := 165) dX3_fails_165 0 rfl ?_
              refine g_iload_n h (pc := 166) dX3_fails_166 1 rfl ?_
              refine g_iload_n h (pc := 167) dX3_fails_167 2 rfl ?_
              refine g_aload_n h (pc := 168) dX3_fails_168 0 rfl ?_
              refine g_get h (pc := 169) dX3_fails_169 iX3_fails_3 0 rfl rfl 1 (by decide) fX3_fails_19 rfl ?_
              refine g_iload_n h (pc := 172) dX3_fails_172 1 rfl ?_
              refine g_iload_n h (pc := 173) dX3_fails_173 2 rfl ?_
              refine g_callR h (pc := 174) (As := [.int (nI s), .int (nI k)]) (st := [.int (nI k), .int (nI s), .ref (a 0)]) dX3_fails_174 (c_first (gL C) (gD C) cI cO (fun i => a (10 + i)) Z ns nk hz s k hs hk) [10, 11, 12, 13, 14, 15, 16, 17, 18, 19, 20, 21] rfl (by decide) gX3_fails_X2_firstThatMends rfl (q0 := 0) rfl rfl (show nPar yX2_firstThatMends RX2 2 = true by decide +kernel) ⟨Nat.le_of_ble_eq_true rfl, Nat.le_of_ble_eq_true rfl⟩ rfl (Nat.le_of_ble_eq_true rfl) ⟨by show _ ≤ cp (failsP ns nk Z d (nI s) (nI k) how).2.2 - cp d; omega, by show _ ≤ 2 * (cp (failsP ns nk Z d (nI s) (nI k) how).2.2 - cp d); omega⟩ (fun r9 hr9 => ?_)
              subst hr9
              refine g_callV h (pc := 177) (As := [.int (nI s), .int (nI k), .int (nI (mOf Z k s))]) (st := []) dX3_fails_177 (c_ups (gL C) (gD C) cI cO a u3 Z _ hR4 ns nk hz (by omega) s k (mOf Z k s) hs hk (rch_mo hz hk 8 s hs)) hw gX3_fails_X3_asksGoUp rfl (q0 := 0) rfl rfl (show nPar yX3_asksGoUp RX3 3 = true by decide +kernel) ⟨Nat.le_of_ble_eq_true rfl, Nat.le_of_ble_eq_true rfl⟩ rfl (Nat.le_of_ble_eq_true rfl) ⟨by show _ ≤ cp (failsP ns nk Z d (nI s) (nI k) how).2.2 - cp d; omega, by show _ ≤ 2 * (cp (failsP ns nk Z d (nI s) (nI k) how).2.2 - cp d); omega⟩ (fun u4 hR5 => ?_)
              refine g_wid (k' := cp (ups Z k (mOf Z k s) 8 s (back Z (machine Z (inc d 13 k) s k) s k how)) - cp d) (n' := 2 * (cp (ups Z k (mOf Z k s) 8 s (back Z (machine Z (inc d 13 k) s k) s k how)) - cp d)) (by omega) (by omega) ?_
              exact ed u4 hR5
      by_cases hh1 : how = 1
      · refine g_icmp_ne_f h (pc := 25) (tgt := 44) dX3_fails_25 (by decide) hh1 ?_
        refine g_aload_n h (pc := 28) dX3_fails_28 0 rfl ?_
        refine g_get h (pc := 29) dX3_fails_29 iX3_fails_3 0 rfl rfl 0 (by decide) fX3_fails_10 rfl ?_
        refine g_get h (pc := 32) dX3_fails_32 iX3_fails_0 1 rfl rfl 2 (by decide) fX3_fails_69 rfl ?_
        refine g_iload_n h (pc := 35) dX3_fails_35 2 rfl ?_
        refine g_iald h (pc := 36) (v := Z 2 0 k) dX3_fails_36 4 rfl (vp_in_nI (by omega) (by omega)) (by rw [nI_clamp (by omega)]) ?_
        refine g_iconst h (pc := 37) (v := (-1)) dX3_fails_37 (by decide) ?_
        by_cases hc1 : Z 2 0 k = -1
        · refine g_icmp_ne_f h (pc := 38) (tgt := 44) dX3_fails_38 (by decide) hc1 ?_
          refine g_bipush h (pc := 41) (v := (-3)) dX3_fails_41 (by decide) ?_
          have e1 : (failsP ns nk Z d (nI s) (nI k) how) = (-3, Z, d) := by unfold failsP; rw [hp, if_neg (by decide), if_neg (by rw [ho]; decide), tk, if_pos ⟨hh1, hc1⟩]
          rw [e1] at hret
          exact hret _ u dX3_fails_43 rfl ⟨rfl, hRC⟩ rfl (Nat.zero_le _) (Nat.zero_le _)
        · refine g_icmp_ne_t h (pc := 38) (tgt := 44) dX3_fails_38 (by decide) hc1 ?_
          exact tl (fun q => hc1 q.2)
      · refine g_icmp_ne_t h (pc := 25) (tgt := 44) dX3_fails_25 (by decide) hh1 ?_
        exact tl (fun q => hh1 q.1)

theorem iX3_days_3 : ∀ w ∈ wsX30, w ∈ wsX3_days := by decide +kernel
theorem fX3_days_48 : Cond.fieldLink RX3 48 "SpareShelves" "time" "I" ∈ wsX3_days := by decide +kernel
set_option maxHeartbeats 4000000 in
set_option maxRecDepth 100000 in
theorem c_days (l : Launch) (D : va_G) (cI cO : ClassId) (a : Nat → Nat) (u : UX) (Z : Sg) (d : Dy) (hRC : RC d u) (ns nk : Nat) (hz : Zv ns nk Z) (t : Nat) (hzx : Zx ns nk t Z) (hd : Dv ns nk Z (t + 1) d) (hph : Ph d ≤ 20000) (x : Int32) : CIc l yX3_days wsX3_days 8 290 D cI cO a u Z d [.int x] (daysP Z d x).1 (daysP Z d x).2.1 (daysP Z d x).2.2 := by
  unfold CIc
  refine CI.of (cc := cX3_days) (maxL := 3) (rt := .int) (by decide) rfl (Nat.le_of_ble_eq_true rfl) ?_
  intro C hgL hgD hw h hret
  have hn8 := hz.n8
  have hk8 := hz.k8
  refine g_iload_n h (pc := 0) dX3_days_0 1 rfl ?_
  refine g_iconst h (pc := 1) (v := 1) dX3_days_1 (by decide) ?_
  refine g_bipush h (pc := 2) (v := 60) dX3_days_2 (by decide) ?_
  refine g_scallR h (pc := 4) (As := [.int x, .int (1), .int (60)]) (st := []) dX3_days_4 (c_out (gL C) (gD C) cI cO x (1) (60)) [] rfl (by decide) gX3_days_X3_isOutside rfl (show nPar yX3_isOutside RX3 3 = true by decide +kernel) ⟨Nat.le_of_ble_eq_true rfl, Nat.le_of_ble_eq_true rfl⟩ rfl (Nat.le_of_ble_eq_true rfl) ⟨Nat.zero_le _, Nat.zero_le _⟩ (fun r hr => ?_)
  subst hr
  cases ho : outB x 1 60 with
  | true =>
    refine g_topi (y := 1) rfl ?_
    refine g_if_eq_f h (pc := 7) (tgt := 13) dX3_days_7 (by decide) (by decide) ?_
    refine g_bipush h (pc := 10) (v := (-2)) dX3_days_10 (by decide) ?_
    have e1 : (daysP Z d x) = (-2, Z, d) := by unfold daysP; rw [if_pos ho]
    rw [e1] at hret
    exact hret _ u dX3_days_12 rfl ⟨rfl, hRC⟩ rfl (Nat.zero_le _) (Nat.zero_le _)
  | false =>
    refine g_topi (y := 0) rfl ?_
    refine g_if_eq_t h (pc := 7) (tgt := 13) dX3_days_7 (by decide) rfl ?_
    refine g_aload_n h (pc := 13) dX3_days_13 0 rfl ?_
    refine g_get h (pc := 14) dX3_days_14 iX3_days_3 0 rfl rfl 8 (by decide) fX3_days_48 rfl ?_
    refine g_iload_n h (pc := 17) dX3_days_17 1 rfl ?_
    refine g_iadd h (pc := 18) dX3_days_18  ?_
    refine g_sipush h (pc := 19) (v := 5000) dX3_days_19 (by decide) ?_
    by_cases hfu : 5000 < Z 14 0 2 + x
    · refine g_icmp_le_f h (pc := 22) (tgt := 28) dX3_days_22 (by decide) (Int32.not_le.mpr hfu) ?_
      refine g_bipush h (pc := 25) (v := (-4)) dX3_days_25 (by decide) ?_
      have e1 : (daysP Z d x) = (-4, Z, d) := by unfold daysP; rw [if_neg (by rw [ho]; decide), if_pos hfu]
      rw [e1] at hret
      exact hret _ u dX3_days_27 rfl ⟨rfl, hRC⟩ rfl (Nat.zero_le _) (Nat.zero_le _)
    · refine g_icmp_le_t h (pc := 22) (tgt := 28) dX3_days_22 (by decide) (Int32.not_lt.mp hfu) ?_
      obtain ⟨j, hj1, hj2, rfl⟩ := outB_in (a := 1) (b := 60) ho rfl rfl (by omega) (by omega)
      have tj : tN (nI j) = j := nI_clamp (by omega)
      have e1 : (daysP Z d (nI j)) = ((dyN j (Z, d)).1 14 0 2, (dyN j (Z, d)).1, (dyN j (Z, d)).2) := by unfold daysP; rw [if_neg (by rw [ho]; decide), if_neg hfu, tj]
      have ef : cp (daysP Z d (nI j)).2.2 = cp (dyN j (Z, d)).2 := by rw [e1]
      rw [e1] at hret
      have ht5 := hzx.t5
      have htj : t + j ≤ 5000 := by
        rw [hzx.tt, nI_add, show (5000 : Int32) = nI 5000 from rfl] at hfu
        rcases Nat.lt_or_ge 5000 (t + j) with q | q
        · exact absurd (nI_lt q (by omega)) hfu
        · exact q
      refine g_iconst h (pc := 28) (v := 0) dX3_days_28 (by decide) ?_
      refine g_istore_n h (pc := 29) dX3_days_29 (by decide) rfl ?_
      refine g_wid (k' := cp d - cp d) (n' := 2 * (cp d - cp d)) (by omega) (by omega) ?_
      suffices loop : ∀ (n i t1 : Nat) (Z1 : Sg) (d1 : Dy) (u1 : UX), i + n = j → t1 + n ≤ 5000 → dyN n (Z1, d1) = (dyN j (Z, d)) → Zx ns nk t1 Z1 → RC d1 u1 → cp d ≤ cp d1 → Dv ns nk Z1 (t1 + 1) d1 → Ph d1 ≤ 20000 → GG C 3 (cw cI cO a u1 Z1 d1) (cp d1 - cp d) (2 * (cp d1 - cp d)) 30 [(0, .ref (a 0)), (1, .int (nI j)), (2, .int (nI i))] [] from loop j 0 t Z d u (by omega) htj rfl hzx hRC (Nat.le_refl _) hd hph
      intro n
      induction n with
      | zero =>
        intro i t1 Z1 d1 u1 h1 ht1 hm hz1 hR1 hc1 hd1 hp1
        refine g_iload_n h (pc := 30) dX3_days_30 2 rfl ?_
        refine g_iload_n h (pc := 31) dX3_days_31 1 rfl ?_
        refine g_icmp_ge_t h (pc := 32) (tgt := 59) dX3_days_32 (by decide) (nI_le (by omega) (by omega)) ?_
        rw [dyN] at hm
        rw [← hm] at hret ef
        refine g_aload_n h (pc := 59) dX3_days_59 0 rfl ?_
        refine g_get h (pc := 60) dX3_days_60 iX3_days_3 0 rfl rfl 8 (by decide) fX3_days_48 rfl ?_
        exact hret _ u1 dX3_days_63 rfl ⟨rfl, hR1⟩ rfl (Nat.le_refl _) (Nat.le_refl _)
      | succ n ih =>
        intro i t1 Z1 d1 u1 h1 ht1 hm hz1 hR1 hc1 hd1 hp1
        rw [dyN] at hm
        obtain ⟨k0, k1, k2, k3⟩ := day_ok hz1 (by omega) d1 hd1
        have mm : cp (dy1 (Z1, d1)).2 ≤ cp (dyN j (Z, d)).2 := by rw [← hm]; exact cpl_dyN n _
        have k4 : (dy1 (Z1, d1)).2 = (stands (doAll (su Z1 14 0 2 (nI (t1 + 1))) d1.2.2.1.length d1)) := by show stands (doAll (su Z1 14 0 2 (Z1 14 0 2 + 1)) _ d1) = _; rw [hz1.tt, nI_1]
        rw [show dy1 (Z1, d1) = ((su Z1 14 0 2 (nI (t1 + 1))), (stands (doAll (su Z1 14 0 2 (nI (t1 + 1))) d1.2.2.1.length d1))) from Prod.ext k0 k4] at hm k1 k2 k3 mm
        have hz2 : Zx ns nk (t1 + 1) (su Z1 14 0 2 (nI (t1 + 1))) := k1
        have c1 := cpl_doAll (su Z1 14 0 2 (nI (t1 + 1))) d1.2.2.1.length d1
        have c2 : cp (stands (doAll (su Z1 14 0 2 (nI (t1 + 1))) d1.2.2.1.length d1)) = cp (doAll (su Z1 14 0 2 (nI (t1 + 1))) d1.2.2.1.length d1) := rfl
        obtain ⟨f1, f2⟩ := doAll_ok hz2 d1.2.2.1.length d1 hd1
        have f3 := Ph_sz (doAll (su Z1 14 0 2 (nI (t1 + 1))) d1.2.2.1.length d1)
        have f4 : (doAll (su Z1 14 0 2 (nI (t1 + 1))) d1.2.2.1.length d1).2.1.length ≤ sz (doAll (su Z1 14 0 2 (nI (t1 + 1))) d1.2.2.1.length d1) := Nat.le_add_right _ _
        have mm2 : cp (stands (doAll (su Z1 14 0 2 (nI (t1 + 1))) d1.2.2.1.length d1)) ≤ cp (dyN j (Z, d)).2 := mm
        refine g_iload_n h (pc := 30) dX3_days_30 2 rfl ?_
        refine g_iload_n h (pc := 31) dX3_days_31 1 rfl ?_
        refine g_icmp_ge_f h (pc := 32) (tgt := 59) dX3_days_32 (by decide) (nI_ge (by omega) (by omega)) ?_
        refine g_aload_n h (pc := 35) dX3_days_35 0 rfl ?_
        refine g_dup h (pc := 36) dX3_days_36 rfl ?_
        refine g_get h (pc := 37) dX3_days_37 iX3_days_3 0 rfl rfl 8 (by decide) fX3_days_48 rfl ?_
        refine g_topi hz1.tt ?_
        refine g_iconst h (pc := 40) (v := 1) dX3_days_40 (by decide) ?_
        refine g_iadd h (pc := 41) dX3_days_41  ?_
        refine g_topi (nI_1 t1) ?_
        refine g_put h hw (pc := 42) (ws' := cw cI cO a u1 (su Z1 14 0 2 (nI (t1 + 1))) d1) (ty := .int) dX3_days_42 iX3_days_3 tyX3 tyX3_ok nmX3 0 rfl rfl 8 (by decide) fX3_days_48 rfl (by decide +kernel) rfl rfl (Nat.le_of_ble_eq_true rfl) rfl ?_
        refine g_aload_n h (pc := 45) dX3_days_45 0 rfl ?_
        refine g_callV h (pc := 46) (As := []) (st := []) dX3_days_46 (c_due (gL C) (gD C) cI cO a u1 (su Z1 14 0 2 (nI (t1 + 1))) d1 hR1 ns nk hz2.v (t1 + 1) hz2 hd1 hp1) hw gX3_days_X3_doWhatIsDue rfl (q0 := 0) rfl rfl (show nPar yX3_doWhatIsDue RX3 0 = true by decide +kernel) ⟨Nat.le_of_ble_eq_true rfl, Nat.le_of_ble_eq_true rfl⟩ rfl (Nat.le_of_ble_eq_true rfl) ⟨by show _ ≤ cp (daysP Z d (nI j)).2.2 - cp d; omega, by show _ ≤ 2 * (cp (daysP Z d (nI j)).2.2 - cp d); omega⟩ (fun u2 hR2 => ?_)
        refine g_wid (k' := cp (doAll (su Z1 14 0 2 (nI (t1 + 1))) d1.2.2.1.length d1) - cp d) (n' := 2 * (cp (doAll (su Z1 14 0 2 (nI (t1 + 1))) d1.2.2.1.length d1) - cp d)) (by omega) (by omega) ?_
        refine g_aload_n h (pc := 49) dX3_days_49 0 rfl ?_
        refine g_callV h (pc := 50) (As := []) (st := []) dX3_days_50 (c_stand (gL C) (gD C) cI cO a u2 (su Z1 14 0 2 (nI (t1 + 1))) _ hR2 ns nk hz2.v f2.1 (by omega)) hw gX3_days_X3_countStanding rfl (q0 := 0) rfl rfl (show nPar yX3_countStanding RX3 0 = true by decide +kernel) ⟨Nat.le_of_ble_eq_true rfl, Nat.le_of_ble_eq_true rfl⟩ rfl (Nat.le_of_ble_eq_true rfl) ⟨by show _ ≤ cp (daysP Z d (nI j)).2.2 - cp d; omega, by show _ ≤ 2 * (cp (daysP Z d (nI j)).2.2 - cp d); omega⟩ (fun u3 hR3 => ?_)
        refine g_wid (k' := cp (stands (doAll (su Z1 14 0 2 (nI (t1 + 1))) d1.2.2.1.length d1)) - cp d) (n' := 2 * (cp (stands (doAll (su Z1 14 0 2 (nI (t1 + 1))) d1.2.2.1.length d1)) - cp d)) (by omega) (by omega) ?_
        refine g_iinc h (pc := 53) dX3_days_53 2 rfl (nI_1 i) (by decide) rfl ?_
        refine g_goto h (pc := 56) (tgt := 30) dX3_days_56 (by decide) ?_
        exact ih (i + 1) (t1 + 1) _ _ u3 (by omega) (by omega) hm hz2 hR3 (by omega) k2 (Nat.le_trans k3 hp1)
