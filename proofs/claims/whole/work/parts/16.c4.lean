theorem iX3_rate_3 : ∀ w ∈ wsX30, w ∈ wsX3_rate := by decide +kernel
theorem fX3_rate_28 : Cond.fieldLink RX3 28 "SpareShelves" "rates" "[[I" ∈ wsX3_rate := by decide +kernel
set_option maxHeartbeats 4000000 in
set_option maxRecDepth 100000 in
theorem c_rate (l : Launch) (D : va_G) (cI cO : ClassId) (a : Nat → Nat) (u : UX) (Z : Sg) (d : Dy) (hRC : RC d u) (ns nk : Nat) (hz : Zv ns nk Z) (x y r : Int32) : CIc l yX3_rate wsX3_rate 2 50 D cI cO a u Z d [.int x, .int y, .int r] (rateP ns nk Z d x y r).1 (rateP ns nk Z d x y r).2.1 (rateP ns nk Z d x y r).2.2 := by
  unfold CIc
  refine CI.of (cc := cX3_rate) (maxL := 5) (rt := .int) (by decide) rfl (Nat.le_of_ble_eq_true rfl) ?_
  intro C hgL hgD hw h hret
  have hn8 := hz.n8
  have hk8 := hz.k8
  cases hp : (isIn x ns && isIn y nk) with
  | false =>
    refine g_aload_n h (pc := 0) dX3_rate_0 0 rfl ?_
    refine g_iload_n h (pc := 1) dX3_rate_1 1 rfl ?_
    refine g_iload_n h (pc := 2) dX3_rate_2 2 rfl ?_
    refine g_callR h (pc := 3) (As := [.int x, .int y]) (st := []) dX3_rate_3 (c_noplace (gL C) (gD C) cI cO a u Z d hRC ns nk hz x y) [0, 1, 2, 3, 4, 5, 6, 7, 8, 9, 10, 11, 12, 13, 14, 15, 16, 17, 18, 19, 20, 21, 22, 23, 24, 25, 26, 27, 28, 29, 30, 31, 32, 33, 34, 35, 36, 37, 38, 39, 40, 41, 42, 43, 44, 45] rfl (by decide) gX3_rate_X3_isNoPlace rfl (q0 := 0) rfl rfl (show nPar yX3_isNoPlace RX3 2 = true by decide +kernel) ⟨Nat.le_of_ble_eq_true rfl, Nat.le_of_ble_eq_true rfl⟩ rfl (Nat.le_of_ble_eq_true rfl) ⟨Nat.zero_le _, Nat.zero_le _⟩ (fun r hr => ?_)
    subst hr
    rw [hp]
    refine g_topi (y := 1) rfl ?_
    refine g_if_eq_f h (pc := 6) (tgt := 11) dX3_rate_6 (by decide) (by decide) ?_
    refine g_iconst h (pc := 9) (v := (-1)) dX3_rate_9 (by decide) ?_
    have e1 : (rateP ns nk Z d x y r) = (-1, Z, d) := by unfold rateP; rw [if_pos hp]
    rw [e1] at hret
    exact hret _ u dX3_rate_10 rfl ⟨rfl, hRC⟩ rfl (Nat.zero_le _) (Nat.zero_le _)
  | true =>
    refine g_aload_n h (pc := 0) dX3_rate_0 0 rfl ?_
    refine g_iload_n h (pc := 1) dX3_rate_1 1 rfl ?_
    refine g_iload_n h (pc := 2) dX3_rate_2 2 rfl ?_
    refine g_callR h (pc := 3) (As := [.int x, .int y]) (st := []) dX3_rate_3 (c_noplace (gL C) (gD C) cI cO a u Z d hRC ns nk hz x y) [0, 1, 2, 3, 4, 5, 6, 7, 8, 9, 10, 11, 12, 13, 14, 15, 16, 17, 18, 19, 20, 21, 22, 23, 24, 25, 26, 27, 28, 29, 30, 31, 32, 33, 34, 35, 36, 37, 38, 39, 40, 41, 42, 43, 44, 45] rfl (by decide) gX3_rate_X3_isNoPlace rfl (q0 := 0) rfl rfl (show nPar yX3_isNoPlace RX3 2 = true by decide +kernel) ⟨Nat.le_of_ble_eq_true rfl, Nat.le_of_ble_eq_true rfl⟩ rfl (Nat.le_of_ble_eq_true rfl) ⟨Nat.zero_le _, Nat.zero_le _⟩ (fun r hr => ?_)
    subst hr
    rw [hp]
    refine g_topi (y := 0) rfl ?_
    refine g_if_eq_t h (pc := 6) (tgt := 11) dX3_rate_6 (by decide) rfl ?_
    have hpp := Bool.and_eq_true_iff.mp hp
    obtain ⟨s, hs, rfl⟩ := isIn_of (by omega) hpp.1
    obtain ⟨k, hk, rfl⟩ := isIn_of (by omega) hpp.2
    have ts : tN (nI s) = s := nI_clamp (by omega)
    have tk : tN (nI k) = k := nI_clamp (by omega)
    refine g_iload_n h (pc := 11) dX3_rate_11 3 rfl ?_
    refine g_iconst h (pc := 12) (v := 0) dX3_rate_12 (by decide) ?_
    refine g_sipush h (pc := 13) (v := 10000) dX3_rate_13 (by decide) ?_
    refine g_scallR h (pc := 16) (As := [.int r, .int (0), .int (10000)]) (st := []) dX3_rate_16 (c_out (gL C) (gD C) cI cO r (0) (10000)) [] rfl (by decide) gX3_rate_X3_isOutside rfl (show nPar yX3_isOutside RX3 3 = true by decide +kernel) ⟨Nat.le_of_ble_eq_true rfl, Nat.le_of_ble_eq_true rfl⟩ rfl (Nat.le_of_ble_eq_true rfl) ⟨Nat.zero_le _, Nat.zero_le _⟩ (fun r hr => ?_)
    subst hr
    cases ho : outB r 0 10000 with
    | true =>
      refine g_topi (y := 1) rfl ?_
      refine g_if_eq_f h (pc := 19) (tgt := 25) dX3_rate_19 (by decide) (by decide) ?_
      refine g_bipush h (pc := 22) (v := (-2)) dX3_rate_22 (by decide) ?_
      have e1 : (rateP ns nk Z d (nI s) (nI k) r) = (-2, Z, d) := by unfold rateP; rw [hp, if_neg (by decide), if_pos ho]
      rw [e1] at hret
      exact hret _ u dX3_rate_24 rfl ⟨rfl, hRC⟩ rfl (Nat.zero_le _) (Nat.zero_le _)
    | false =>
      refine g_topi (y := 0) rfl ?_
      refine g_if_eq_t h (pc := 19) (tgt := 25) dX3_rate_19 (by decide) rfl ?_
      have e1 : (rateP ns nk Z d (nI s) (nI k) r) = (Z 8 s k, su Z 8 s k r, d) := by unfold rateP; rw [hp, if_neg (by decide), if_neg (by rw [ho]; decide), ts, tk]
      rw [e1] at hret
      refine g_aload_n h (pc := 25) dX3_rate_25 0 rfl ?_
      refine g_get h (pc := 26) dX3_rate_26 iX3_rate_3 0 rfl rfl 3 (by decide) fX3_rate_28 rfl ?_
      refine g_iload_n h (pc := 29) dX3_rate_29 1 rfl ?_
      refine g_aald h (pc := 30) (v := a (32 + s)) dX3_rate_30 31 rfl (vp_in_nI (by omega) (by omega)) (by rw [nI_clamp (by omega)]) ?_
      refine g_iload_n h (pc := 31) dX3_rate_31 2 rfl ?_
      refine g_iald h (pc := 32) (v := Z 8 s k) dX3_rate_32 (32 + s) (cw_r cI cO a u Z d (by omega)) (vp_in_nI (by omega) (by omega)) (by rw [nI_clamp (by omega)]) ?_
      refine g_istore h (pc := 33) dX3_rate_33 (by decide) rfl ?_
      refine g_aload_n h (pc := 35) dX3_rate_35 0 rfl ?_
      refine g_get h (pc := 36) dX3_rate_36 iX3_rate_3 0 rfl rfl 3 (by decide) fX3_rate_28 rfl ?_
      refine g_iload_n h (pc := 39) dX3_rate_39 1 rfl ?_
      refine g_aald h (pc := 40) (v := a (32 + s)) dX3_rate_40 31 rfl (vp_in_nI (by omega) (by omega)) (by rw [nI_clamp (by omega)]) ?_
      refine g_iload_n h (pc := 41) dX3_rate_41 2 rfl ?_
      refine g_iload_n h (pc := 42) dX3_rate_42 3 rfl ?_
      refine g_iast h hw (pc := 43) (ws' := cw cI cO a u (su Z 8 s k r) d) dX3_rate_43 (32 + s) (cw_r cI cO a u Z d (by omega)) (vp_in_nI (by omega) (by omega)) (by rw [nI_clamp (by omega)]; exact cw_rs cI cO a u Z d (by omega) k _) ?_
      refine g_iload h (pc := 44) dX3_rate_44 4 rfl ?_
      exact hret _ u dX3_rate_46 rfl ⟨rfl, hRC⟩ rfl (Nat.zero_le _) (Nat.zero_le _)

theorem iX3_mend_3 : ∀ w ∈ wsX30, w ∈ wsX3_mend := by decide +kernel
theorem fX3_mend_19 : Cond.fieldLink RX3 19 "SpareShelves" "tree" "LSpareShelves$Tree;" ∈ wsX3_mend := by decide +kernel
theorem iX3_mend_2 : ∀ w ∈ wsX20, w ∈ wsX3_mend := by decide +kernel
theorem fX3_mend_72 : Cond.fieldLink RX3 72 "SpareShelves$Tree" "mendDays" "[[I" ∈ wsX3_mend := by decide +kernel
set_option maxHeartbeats 4000000 in
set_option maxRecDepth 100000 in
theorem c_mend (l : Launch) (D : va_G) (cI cO : ClassId) (a : Nat → Nat) (u : UX) (Z : Sg) (d : Dy) (hRC : RC d u) (ns nk : Nat) (hz : Zv ns nk Z) (x y b : Int32) : CIc l yX3_mend wsX3_mend 3 80 D cI cO a u Z d [.int x, .int y, .int b] (mendP ns nk Z d x y b).1 (mendP ns nk Z d x y b).2.1 (mendP ns nk Z d x y b).2.2 := by
  unfold CIc
  refine CI.of (cc := cX3_mend) (maxL := 5) (rt := .int) (by decide) rfl (Nat.le_of_ble_eq_true rfl) ?_
  intro C hgL hgD hw h hret
  have hn8 := hz.n8
  have hk8 := hz.k8
  cases hp : (isIn x ns && isIn y nk) with
  | false =>
    refine g_aload_n h (pc := 0) dX3_mend_0 0 rfl ?_
    refine g_iload_n h (pc := 1) dX3_mend_1 1 rfl ?_
    refine g_iload_n h (pc := 2) dX3_mend_2 2 rfl ?_
    refine g_callR h (pc := 3) (As := [.int x, .int y]) (st := []) dX3_mend_3 (c_noplace (gL C) (gD C) cI cO a u Z d hRC ns nk hz x y) [0, 1, 2, 3, 4, 5, 6, 7, 8, 9, 10, 11, 12, 13, 14, 15, 16, 17, 18, 19, 20, 21, 22, 23, 24, 25, 26, 27, 28, 29, 30, 31, 32, 33, 34, 35, 36, 37, 38, 39, 40, 41, 42, 43, 44, 45] rfl (by decide) gX3_mend_X3_isNoPlace rfl (q0 := 0) rfl rfl (show nPar yX3_isNoPlace RX3 2 = true by decide +kernel) ⟨Nat.le_of_ble_eq_true rfl, Nat.le_of_ble_eq_true rfl⟩ rfl (Nat.le_of_ble_eq_true rfl) ⟨Nat.zero_le _, Nat.zero_le _⟩ (fun r hr => ?_)
    subst hr
    rw [hp]
    refine g_topi (y := 1) rfl ?_
    refine g_if_eq_f h (pc := 6) (tgt := 11) dX3_mend_6 (by decide) (by decide) ?_
    refine g_iconst h (pc := 9) (v := (-1)) dX3_mend_9 (by decide) ?_
    have e1 : (mendP ns nk Z d x y b) = (-1, Z, d) := by unfold mendP; rw [if_pos hp]
    rw [e1] at hret
    exact hret _ u dX3_mend_10 rfl ⟨rfl, hRC⟩ rfl (Nat.zero_le _) (Nat.zero_le _)
  | true =>
    refine g_aload_n h (pc := 0) dX3_mend_0 0 rfl ?_
    refine g_iload_n h (pc := 1) dX3_mend_1 1 rfl ?_
    refine g_iload_n h (pc := 2) dX3_mend_2 2 rfl ?_
    refine g_callR h (pc := 3) (As := [.int x, .int y]) (st := []) dX3_mend_3 (c_noplace (gL C) (gD C) cI cO a u Z d hRC ns nk hz x y) [0, 1, 2, 3, 4, 5, 6, 7, 8, 9, 10, 11, 12, 13, 14, 15, 16, 17, 18, 19, 20, 21, 22, 23, 24, 25, 26, 27, 28, 29, 30, 31, 32, 33, 34, 35, 36, 37, 38, 39, 40, 41, 42, 43, 44, 45] rfl (by decide) gX3_mend_X3_isNoPlace rfl (q0 := 0) rfl rfl (show nPar yX3_isNoPlace RX3 2 = true by decide +kernel) ⟨Nat.le_of_ble_eq_true rfl, Nat.le_of_ble_eq_true rfl⟩ rfl (Nat.le_of_ble_eq_true rfl) ⟨Nat.zero_le _, Nat.zero_le _⟩ (fun r hr => ?_)
    subst hr
    rw [hp]
    refine g_topi (y := 0) rfl ?_
    refine g_if_eq_t h (pc := 6) (tgt := 11) dX3_mend_6 (by decide) rfl ?_
    have hpp := Bool.and_eq_true_iff.mp hp
    obtain ⟨s, hs, rfl⟩ := isIn_of (by omega) hpp.1
    obtain ⟨k, hk, rfl⟩ := isIn_of (by omega) hpp.2
    have ts : tN (nI s) = s := nI_clamp (by omega)
    have tk : tN (nI k) = k := nI_clamp (by omega)
    refine g_iload_n h (pc := 11) dX3_mend_11 3 rfl ?_
    refine g_iconst h (pc := 12) (v := 0) dX3_mend_12 (by decide) ?_
    refine g_bipush h (pc := 13) (v := 30) dX3_mend_13 (by decide) ?_
    refine g_scallR h (pc := 15) (As := [.int b, .int (0), .int (30)]) (st := []) dX3_mend_15 (c_out (gL C) (gD C) cI cO b (0) (30)) [] rfl (by decide) gX3_mend_X3_isOutside rfl (show nPar yX3_isOutside RX3 3 = true by decide +kernel) ⟨Nat.le_of_ble_eq_true rfl, Nat.le_of_ble_eq_true rfl⟩ rfl (Nat.le_of_ble_eq_true rfl) ⟨Nat.zero_le _, Nat.zero_le _⟩ (fun r hr => ?_)
    subst hr
    cases ho : outB b 0 30 with
    | true =>
      refine g_topi (y := 1) rfl ?_
      refine g_if_ne_t h (pc := 18) (tgt := 29) dX3_mend_18 (by decide) (by decide) ?_
      refine g_bipush h (pc := 29) (v := (-2)) dX3_mend_29 (by decide) ?_
      have e1 : (mendP ns nk Z d (nI s) (nI k) b) = (-2, Z, d) := by unfold mendP; rw [hp, if_neg (by decide), if_pos (Or.inl ho)]
      rw [e1] at hret
      exact hret _ u dX3_mend_31 rfl ⟨rfl, hRC⟩ rfl (Nat.zero_le _) (Nat.zero_le _)
    | false =>
      refine g_topi (y := 0) rfl ?_
      refine g_if_ne_f h (pc := 18) (tgt := 29) dX3_mend_18 (by decide) rfl ?_
      refine g_iload_n h (pc := 21) dX3_mend_21 1 rfl ?_
      by_cases hb : b = 0
      · by_cases hs0 : nI s = 0
        · refine g_if_ne_f h (pc := 22) (tgt := 32) dX3_mend_22 (by decide) hs0 ?_
          refine g_iload_n h (pc := 25) dX3_mend_25 3 rfl ?_
          refine g_if_ne_f h (pc := 26) (tgt := 32) dX3_mend_26 (by decide) hb ?_
          refine g_bipush h (pc := 29) (v := (-2)) dX3_mend_29 (by decide) ?_
          have e1 : (mendP ns nk Z d (nI s) (nI k) b) = (-2, Z, d) := by unfold mendP; rw [hp, if_neg (by decide), if_pos (Or.inr ⟨hs0, hb⟩)]
          rw [e1] at hret
          exact hret _ u dX3_mend_31 rfl ⟨rfl, hRC⟩ rfl (Nat.zero_le _) (Nat.zero_le _)
        · refine g_if_ne_t h (pc := 22) (tgt := 32) dX3_mend_22 (by decide) hs0 ?_
          refine g_iload_n h (pc := 32) dX3_mend_32 3 rfl ?_
          refine g_if_ne_f h (pc := 33) (tgt := 48) dX3_mend_33 (by decide) hb ?_
          refine g_aload_n h (pc := 36) dX3_mend_36 0 rfl ?_
          refine g_iload_n h (pc := 37) dX3_mend_37 1 rfl ?_
          refine g_iload_n h (pc := 38) dX3_mend_38 2 rfl ?_
          refine g_callR h (pc := 39) (As := [.int (nI s), .int (nI k)]) (st := []) dX3_mend_39 (c_mwait (gL C) (gD C) cI cO a u Z d hRC ns nk hz (nI s) (nI k)) [0, 1, 2, 3, 4, 5, 6, 7, 8, 9, 10, 11, 12, 13, 14, 15, 16, 17, 18, 19, 20, 21, 22, 23, 24, 25, 26, 27, 28, 29, 30, 31, 32, 33, 34, 35, 36, 37, 38, 39, 40, 41, 42, 43, 44, 45] rfl (by decide) gX3_mend_X3_mendsThatWait rfl (q0 := 0) rfl rfl (show nPar yX3_mendsThatWait RX3 2 = true by decide +kernel) ⟨Nat.le_of_ble_eq_true rfl, Nat.le_of_ble_eq_true rfl⟩ rfl (Nat.le_of_ble_eq_true rfl) ⟨Nat.zero_le _, Nat.zero_le _⟩ (fun r hr => ?_)
          subst hr
          refine g_if_le h (pc := 42) (tgt := 48) dX3_mend_42 (by decide) (fun c5 => ?_) (fun c5 => ?_)
          · have e1 : (mendP ns nk Z d (nI s) (nI k) b) = (Z 6 s k, su Z 6 s k b, d) := by unfold mendP; rw [hp, if_neg (by decide), if_neg (by rw [ho]; exact fun q => q.elim (fun q => absurd q (by decide)) (fun q => hs0 q.1)), if_neg (fun q => absurd c5 (Int32.not_le.mpr q.2)), ts, tk]
            rw [e1] at hret
            refine g_aload_n h (pc := 48) dX3_mend_48 0 rfl ?_
            refine g_get h (pc := 49) dX3_mend_49 iX3_mend_3 0 rfl rfl 1 (by decide) fX3_mend_19 rfl ?_
            refine g_get h (pc := 52) dX3_mend_52 iX3_mend_2 10 rfl rfl 2 (by decide) fX3_mend_72 rfl ?_
            refine g_iload_n h (pc := 55) dX3_mend_55 1 rfl ?_
            refine g_aald h (pc := 56) (v := a (10 + (4 + s))) dX3_mend_56 13 rfl (vp_in_nI (by omega) (by omega)) (by rw [nI_clamp (by omega)]) ?_
            refine g_iload_n h (pc := 57) dX3_mend_57 2 rfl ?_
            refine g_iald h (pc := 58) (v := Z 6 s k) dX3_mend_58 (10 + (4 + s)) (cw_m cI cO a u Z d (by omega)) (vp_in_nI (by omega) (by omega)) (by rw [nI_clamp (by omega)]) ?_
            refine g_istore h (pc := 59) dX3_mend_59 (by decide) rfl ?_
            refine g_aload_n h (pc := 61) dX3_mend_61 0 rfl ?_
            refine g_get h (pc := 62) dX3_mend_62 iX3_mend_3 0 rfl rfl 1 (by decide) fX3_mend_19 rfl ?_
            refine g_get h (pc := 65) dX3_mend_65 iX3_mend_2 10 rfl rfl 2 (by decide) fX3_mend_72 rfl ?_
            refine g_iload_n h (pc := 68) dX3_mend_68 1 rfl ?_
            refine g_aald h (pc := 69) (v := a (10 + (4 + s))) dX3_mend_69 13 rfl (vp_in_nI (by omega) (by omega)) (by rw [nI_clamp (by omega)]) ?_
            refine g_iload_n h (pc := 70) dX3_mend_70 2 rfl ?_
            refine g_iload_n h (pc := 71) dX3_mend_71 3 rfl ?_
            refine g_iast h hw (pc := 72) (ws' := cw cI cO a u (su Z 6 s k b) d) dX3_mend_72 (10 + (4 + s)) (cw_m cI cO a u Z d (by omega)) (vp_in_nI (by omega) (by omega)) (by rw [nI_clamp (by omega)]; exact cw_ms cI cO a u Z d (by omega) k _) ?_
            refine g_iload h (pc := 73) dX3_mend_73 4 rfl ?_
            exact hret _ u dX3_mend_75 rfl ⟨rfl, hRC⟩ rfl (Nat.zero_le _) (Nat.zero_le _)
          · refine g_bipush h (pc := 45) (v := (-3)) dX3_mend_45 (by decide) ?_
            have e1 : (mendP ns nk Z d (nI s) (nI k) b) = (-3, Z, d) := by unfold mendP; rw [hp, if_neg (by decide), if_neg (by rw [ho]; exact fun q => q.elim (fun q => absurd q (by decide)) (fun q => hs0 q.1)), if_pos ⟨hb, Int32.not_le.mp c5⟩]
            rw [e1] at hret
            exact hret _ u dX3_mend_47 rfl ⟨rfl, hRC⟩ rfl (Nat.zero_le _) (Nat.zero_le _)
      · have hbad : ¬ (outB b 0 30 = true ∨ (nI s = 0 ∧ b = 0)) := by rw [ho]; exact fun q => q.elim (fun q => absurd q (by decide)) (fun q => hb q.2)
        refine g_if_ne h (pc := 22) (tgt := 32) dX3_mend_22 (by decide) (fun c4 => ?_) (fun c4 => ?_)
        · refine g_iload_n h (pc := 32) dX3_mend_32 3 rfl ?_
          refine g_if_ne_t h (pc := 33) (tgt := 48) dX3_mend_33 (by decide) hb ?_
          have e1 : (mendP ns nk Z d (nI s) (nI k) b) = (Z 6 s k, su Z 6 s k b, d) := by unfold mendP; rw [hp, if_neg (by decide), if_neg (hbad), if_neg (fun q => hb q.1), ts, tk]
          rw [e1] at hret
          refine g_aload_n h (pc := 48) dX3_mend_48 0 rfl ?_
          refine g_get h (pc := 49) dX3_mend_49 iX3_mend_3 0 rfl rfl 1 (by decide) fX3_mend_19 rfl ?_
          refine g_get h (pc := 52) dX3_mend_52 iX3_mend_2 10 rfl rfl 2 (by decide) fX3_mend_72 rfl ?_
          refine g_iload_n h (pc := 55) dX3_mend_55 1 rfl ?_
          refine g_aald h (pc := 56) (v := a (10 + (4 + s))) dX3_mend_56 13 rfl (vp_in_nI (by omega) (by omega)) (by rw [nI_clamp (by omega)]) ?_
          refine g_iload_n h (pc := 57) dX3_mend_57 2 rfl ?_
          refine g_iald h (pc := 58) (v := Z 6 s k) dX3_mend_58 (10 + (4 + s)) (cw_m cI cO a u Z d (by omega)) (vp_in_nI (by omega) (by omega)) (by rw [nI_clamp (by omega)]) ?_
          refine g_istore h (pc := 59) dX3_mend_59 (by decide) rfl ?_
          refine g_aload_n h (pc := 61) dX3_mend_61 0 rfl ?_
          refine g_get h (pc := 62) dX3_mend_62 iX3_mend_3 0 rfl rfl 1 (by decide) fX3_mend_19 rfl ?_
          refine g_get h (pc := 65) dX3_mend_65 iX3_mend_2 10 rfl rfl 2 (by decide) fX3_mend_72 rfl ?_
          refine g_iload_n h (pc := 68) dX3_mend_68 1 rfl ?_
          refine g_aald h (pc := 69) (v := a (10 + (4 + s))) dX3_mend_69 13 rfl (vp_in_nI (by omega) (by omega)) (by rw [nI_clamp (by omega)]) ?_
          refine g_iload_n h (pc := 70) dX3_mend_70 2 rfl ?_
          refine g_iload_n h (pc := 71) dX3_mend_71 3 rfl ?_
          refine g_iast h hw (pc := 72) (ws' := cw cI cO a u (su Z 6 s k b) d) dX3_mend_72 (10 + (4 + s)) (cw_m cI cO a u Z d (by omega)) (vp_in_nI (by omega) (by omega)) (by rw [nI_clamp (by omega)]; exact cw_ms cI cO a u Z d (by omega) k _) ?_
          refine g_iload h (pc := 73) dX3_mend_73 4 rfl ?_
          exact hret _ u dX3_mend_75 rfl ⟨rfl, hRC⟩ rfl (Nat.zero_le _) (Nat.zero_le _)
        · refine g_iload_n h (pc := 25) dX3_mend_25 3 rfl ?_
          refine g_if_ne_t h (pc := 26) (tgt := 32) dX3_mend_26 (by decide) hb ?_
          refine g_iload_n h (pc := 32) dX3_mend_32 3 rfl ?_
          refine g_if_ne_t h (pc := 33) (tgt := 48) dX3_mend_33 (by decide) hb ?_
          have e1 : (mendP ns nk Z d (nI s) (nI k) b) = (Z 6 s k, su Z 6 s k b, d) := by unfold mendP; rw [hp, if_neg (by decide), if_neg (hbad), if_neg (fun q => hb q.1), ts, tk]
          rw [e1] at hret
          refine g_aload_n h (pc := 48) dX3_mend_48 0 rfl ?_
          refine g_get h (pc := 49) dX3_mend_49 iX3_mend_3 0 rfl rfl 1 (by decide) fX3_mend_19 rfl ?_
          refine g_get h (pc := 52) dX3_mend_52 iX3_mend_2 10 rfl rfl 2 (by decide) fX3_mend_72 rfl ?_
          refine g_iload_n h (pc := 55) dX3_mend_55 1 rfl ?_
          refine g_aald h (pc := 56) (v := a (10 + (4 + s))) dX3_mend_56 13 rfl (vp_in_nI (by omega) (by omega)) (by rw [nI_clamp (by omega)]) ?_
          refine g_iload_n h (pc := 57) dX3_mend_57 2 rfl ?_
          refine g_iald h (pc := 58) (v := Z 6 s k) dX3_mend_58 (10 + (4 + s)) (cw_m cI cO a u Z d (by omega)) (vp_in_nI (by omega) (by omega)) (by rw [nI_clamp (by omega)]) ?_
          refine g_istore h (pc := 59) dX3_mend_59 (by decide) rfl ?_
          refine g_aload_n h (pc := 61) dX3_mend_61 0 rfl ?_
          refine g_get h (pc := 62) dX3_mend_62 iX3_mend_3 0 rfl rfl 1 (by decide) fX3_mend_19 rfl ?_
          refine g_get h (pc := 65) dX3_mend_65 iX3_mend_2 10 rfl rfl 2 (by decide) fX3_mend_72 rfl ?_
          refine g_iload_n h (pc := 68) dX3_mend_68 1 rfl ?_
          refine g_aald h (pc := 69) (v := a (10 + (4 + s))) dX3_mend_69 13 rfl (vp_in_nI (by omega) (by omega)) (by rw [nI_clamp (by omega)]) ?_
          refine g_iload_n h (pc := 70) dX3_mend_70 2 rfl ?_
          refine g_iload_n h (pc := 71) dX3_mend_71 3 rfl ?_
          refine g_iast h hw (pc := 72) (ws' := cw cI cO a u (su Z 6 s k b) d) dX3_mend_72 (10 + (4 + s)) (cw_m cI cO a u Z d (by omega)) (vp_in_nI (by omega) (by omega)) (by rw [nI_clamp (by omega)]; exact cw_ms cI cO a u Z d (by omega) k _) ?_
          refine g_iload h (pc := 73) dX3_mend_73 4 rfl ?_
          exact hret _ u dX3_mend_75 rfl ⟨rfl, hRC⟩ rfl (Nat.zero_le _) (Nat.zero_le _)

theorem iX3_shelf_3 : ∀ w ∈ wsX30, w ∈ wsX3_shelf := by decide +kernel
theorem fX3_shelf_19 : Cond.fieldLink RX3 19 "SpareShelves" "tree" "LSpareShelves$Tree;" ∈ wsX3_shelf := by decide +kernel
theorem iX3_shelf_2 : ∀ w ∈ wsX20, w ∈ wsX3_shelf := by decide +kernel
theorem fX3_shelf_76 : Cond.fieldLink RX3 76 "SpareShelves$Tree" "size" "I" ∈ wsX3_shelf := by decide +kernel
theorem fX3_shelf_77 : Cond.fieldLink RX3 77 "SpareShelves$Tree" "up" "[I" ∈ wsX3_shelf := by decide +kernel
theorem fX3_shelf_80 : Cond.fieldLink RX3 80 "SpareShelves$Tree" "way" "[I" ∈ wsX3_shelf := by decide +kernel
set_option maxHeartbeats 4000000 in
set_option maxRecDepth 100000 in
theorem c_shelf (l : Launch) (D : va_G) (cI cO : ClassId) (a : Nat → Nat) (u : UX) (Z : Sg) (d : Dy) (hRC : RC d u) (ns nk : Nat) (hz : Zv ns nk Z) (x y : Int32) : CIc l yX3_shelf wsX3_shelf 1 30 D cI cO a u Z d [.int x, .int y] (shelfP ns Z d x y).1 (shelfP ns Z d x y).2.1 (shelfP ns Z d x y).2.2 := by
  unfold CIc
  refine CI.of (cc := cX3_shelf) (maxL := 4) (rt := .int) (by decide) rfl (Nat.le_of_ble_eq_true rfl) ?_
  intro C hgL hgD hw h hret
  have hn8 := hz.n8
  have hk8 := hz.k8
  refine g_aload_n h (pc := 0) dX3_shelf_0 0 rfl ?_
  refine g_get h (pc := 1) dX3_shelf_1 iX3_shelf_3 0 rfl rfl 1 (by decide) fX3_shelf_19 rfl ?_
  refine g_iload_n h (pc := 4) dX3_shelf_4 1 rfl ?_
  refine g_callR h (pc := 5) (As := [.int x]) (st := []) dX3_shelf_5 (c_thas (gL C) (gD C) cI cO (fun i => a (10 + i)) Z ns hz.n8 hz.ns x) [10, 11, 12, 13, 14, 15, 16, 17, 18, 19, 20, 21] rfl (by decide) gX3_shelf_X2_has rfl (q0 := 0) rfl rfl (show nPar yX2_has RX2 1 = true by decide +kernel) ⟨Nat.le_of_ble_eq_true rfl, Nat.le_of_ble_eq_true rfl⟩ rfl (Nat.le_of_ble_eq_true rfl) ⟨Nat.zero_le _, Nat.zero_le _⟩ (fun r hr => ?_)
  subst hr
  cases hp : isIn x ns with
  | false =>
    refine g_topi (y := 0) rfl ?_
    refine g_if_ne_f h (pc := 8) (tgt := 13) dX3_shelf_8 (by decide) rfl ?_
    refine g_iconst h (pc := 11) (v := (-1)) dX3_shelf_11 (by decide) ?_
    have e1 : (shelfP ns Z d x y) = (-1, Z, d) := by unfold shelfP; rw [if_pos hp]
    rw [e1] at hret
    exact hret _ u dX3_shelf_12 rfl ⟨rfl, hRC⟩ rfl (Nat.zero_le _) (Nat.zero_le _)
  | true =>
    refine g_topi (y := 1) rfl ?_
    refine g_if_ne_t h (pc := 8) (tgt := 13) dX3_shelf_8 (by decide) (by decide) ?_
    refine g_iload_n h (pc := 13) dX3_shelf_13 2 rfl ?_
    refine g_iconst h (pc := 14) (v := 1) dX3_shelf_14 (by decide) ?_
    refine g_bipush h (pc := 15) (v := 20) dX3_shelf_15 (by decide) ?_
    refine g_scallR h (pc := 17) (As := [.int y, .int (1), .int (20)]) (st := []) dX3_shelf_17 (c_out (gL C) (gD C) cI cO y (1) (20)) [] rfl (by decide) gX3_shelf_X3_isOutside rfl (show nPar yX3_isOutside RX3 3 = true by decide +kernel) ⟨Nat.le_of_ble_eq_true rfl, Nat.le_of_ble_eq_true rfl⟩ rfl (Nat.le_of_ble_eq_true rfl) ⟨Nat.zero_le _, Nat.zero_le _⟩ (fun r hr => ?_)
    subst hr
    cases ho : outB y 1 20 with
    | true =>
      refine g_topi (y := 1) rfl ?_
      refine g_if_eq_f h (pc := 20) (tgt := 26) dX3_shelf_20 (by decide) (by decide) ?_
      refine g_bipush h (pc := 23) (v := (-2)) dX3_shelf_23 (by decide) ?_
      have e1 : (shelfP ns Z d x y) = (-2, Z, d) := by unfold shelfP; rw [hp, if_neg (by decide), if_pos ho]
      rw [e1] at hret
      exact hret _ u dX3_shelf_25 rfl ⟨rfl, hRC⟩ rfl (Nat.zero_le _) (Nat.zero_le _)
    | false =>
      refine g_topi (y := 0) rfl ?_
      refine g_if_eq_t h (pc := 20) (tgt := 26) dX3_shelf_20 (by decide) rfl ?_
      refine g_aload_n h (pc := 26) dX3_shelf_26 0 rfl ?_
      refine g_get h (pc := 27) dX3_shelf_27 iX3_shelf_3 0 rfl rfl 1 (by decide) fX3_shelf_19 rfl ?_
      refine g_get h (pc := 30) dX3_shelf_30 iX3_shelf_2 10 rfl rfl 3 (by decide) fX3_shelf_76 rfl ?_
      refine g_topi hz.ns ?_
      refine g_bipush h (pc := 33) (v := 8) dX3_shelf_33 (by decide) ?_
      by_cases h8 : 8 ≤ ns
      · refine g_icmp_lt_f h (pc := 35) (tgt := 41) dX3_shelf_35 (by decide) (nI_nlt (a := ns) (b := 8) h8 (by omega)) ?_
        refine g_bipush h (pc := 38) (v := (-4)) dX3_shelf_38 (by decide) ?_
        have e1 : (shelfP ns Z d x y) = (-4, Z, d) := by unfold shelfP; rw [hp, if_neg (by decide), if_neg (by rw [ho]; decide), if_pos h8]
        rw [e1] at hret
        exact hret _ u dX3_shelf_40 rfl ⟨rfl, hRC⟩ rfl (Nat.zero_le _) (Nat.zero_le _)
      · refine g_icmp_lt_t h (pc := 35) (tgt := 41) dX3_shelf_35 (by decide) (nI_lt (a := ns) (b := 8) (by omega) (by omega)) ?_
        have e1 : (shelfP ns Z d x y) = (nI ns, su (su (su Z 3 0 ns x) 4 0 ns y) 14 0 1 (nI (ns + 1)), d) := by unfold shelfP; rw [hp, if_neg (by decide), if_neg (by rw [ho]; decide), if_neg h8]
        rw [e1] at hret
        refine g_aload_n h (pc := 41) dX3_shelf_41 0 rfl ?_
        refine g_get h (pc := 42) dX3_shelf_42 iX3_shelf_3 0 rfl rfl 1 (by decide) fX3_shelf_19 rfl ?_
        refine g_get h (pc := 45) dX3_shelf_45 iX3_shelf_2 10 rfl rfl 3 (by decide) fX3_shelf_76 rfl ?_
        refine g_topi hz.ns ?_
        refine g_istore_n h (pc := 48) dX3_shelf_48 (by decide) rfl ?_
        refine g_aload_n h (pc := 49) dX3_shelf_49 0 rfl ?_
        refine g_get h (pc := 50) dX3_shelf_50 iX3_shelf_3 0 rfl rfl 1 (by decide) fX3_shelf_19 rfl ?_
        refine g_get h (pc := 53) dX3_shelf_53 iX3_shelf_2 10 rfl rfl 0 (by decide) fX3_shelf_77 rfl ?_
        refine g_iload_n h (pc := 56) dX3_shelf_56 3 rfl ?_
        refine g_iload_n h (pc := 57) dX3_shelf_57 1 rfl ?_
        refine g_iast h hw (pc := 58) (ws' := cw cI cO a u (su Z 3 0 ns x) d) dX3_shelf_58 11 rfl (vp_in_nI (by omega) (by omega)) (by rw [nI_clamp (by omega)]; rfl) ?_
        refine g_aload_n h (pc := 59) dX3_shelf_59 0 rfl ?_
        refine g_get h (pc := 60) dX3_shelf_60 iX3_shelf_3 0 rfl rfl 1 (by decide) fX3_shelf_19 rfl ?_
        refine g_get h (pc := 63) dX3_shelf_63 iX3_shelf_2 10 rfl rfl 1 (by decide) fX3_shelf_80 rfl ?_
        refine g_iload_n h (pc := 66) dX3_shelf_66 3 rfl ?_
        refine g_iload_n h (pc := 67) dX3_shelf_67 2 rfl ?_
        refine g_iast h hw (pc := 68) (ws' := cw cI cO a u (su (su Z 3 0 ns x) 4 0 ns y) d) dX3_shelf_68 12 rfl (vp_in_nI (by omega) (by omega)) (by rw [nI_clamp (by omega)]; rfl) ?_
        refine g_aload_n h (pc := 69) dX3_shelf_69 0 rfl ?_
        refine g_get h (pc := 70) dX3_shelf_70 iX3_shelf_3 0 rfl rfl 1 (by decide) fX3_shelf_19 rfl ?_
        refine g_dup h (pc := 73) dX3_shelf_73 rfl ?_
        refine g_get h (pc := 74) dX3_shelf_74 iX3_shelf_2 10 rfl rfl 3 (by decide) fX3_shelf_76 rfl ?_
        refine g_topi (y := nI ns) hz.ns ?_
        refine g_iconst h (pc := 77) (v := 1) dX3_shelf_77 (by decide) ?_
        refine g_iadd h (pc := 78) dX3_shelf_78  ?_
        refine g_topi (nI_1 ns) ?_
        refine g_put h hw (pc := 79) (ws' := cw cI cO a u (su (su (su Z 3 0 ns x) 4 0 ns y) 14 0 1 (nI (ns + 1))) d) (ty := .int) dX3_shelf_79 iX3_shelf_2 tyX2 tyX2_ok nmX2 10 rfl rfl 3 (by decide) fX3_shelf_76 rfl (by decide +kernel) rfl rfl (Nat.le_of_ble_eq_true rfl) rfl ?_
        refine g_iload_n h (pc := 82) dX3_shelf_82 3 rfl ?_
        exact hret _ u dX3_shelf_83 rfl ⟨rfl, hRC⟩ rfl (Nat.zero_le _) (Nat.zero_le _)

theorem iX3_kind_3 : ∀ w ∈ wsX30, w ∈ wsX3_kind := by decide +kernel
theorem fX3_kind_10 : Cond.fieldLink RX3 10 "SpareShelves" "kinds" "LSpareShelves$Kinds;" ∈ wsX3_kind := by decide +kernel
theorem iX3_kind_0 : ∀ w ∈ wsX00, w ∈ wsX3_kind := by decide +kernel
theorem fX3_kind_60 : Cond.fieldLink RX3 60 "SpareShelves$Kinds" "size" "I" ∈ wsX3_kind := by decide +kernel
theorem fX3_kind_63 : Cond.fieldLink RX3 63 "SpareShelves$Kinds" "price" "[I" ∈ wsX3_kind := by decide +kernel
theorem fX3_kind_66 : Cond.fieldLink RX3 66 "SpareShelves$Kinds" "buyDays" "[I" ∈ wsX3_kind := by decide +kernel
theorem fX3_kind_69 : Cond.fieldLink RX3 69 "SpareShelves$Kinds" "core" "[I" ∈ wsX3_kind := by decide +kernel
theorem fX3_kind_19 : Cond.fieldLink RX3 19 "SpareShelves" "tree" "LSpareShelves$Tree;" ∈ wsX3_kind := by decide +kernel
theorem iX3_kind_2 : ∀ w ∈ wsX20, w ∈ wsX3_kind := by decide +kernel
theorem fX3_kind_72 : Cond.fieldLink RX3 72 "SpareShelves$Tree" "mendDays" "[[I" ∈ wsX3_kind := by decide +kernel
set_option maxHeartbeats 4000000 in
set_option maxRecDepth 100000 in
theorem c_kind (l : Launch) (D : va_G) (cI cO : ClassId) (a : Nat → Nat) (u : UX) (Z : Sg) (d : Dy) (hRC : RC d u) (ns nk : Nat) (hz : Zv ns nk Z) (x y c : Int32) : CIc l yX3_kind wsX3_kind 1 30 D cI cO a u Z d [.int x, .int y, .int c] (kindP nk Z d x y c).1 (kindP nk Z d x y c).2.1 (kindP nk Z d x y c).2.2 := by
  unfold CIc
  refine CI.of (cc := cX3_kind) (maxL := 5) (rt := .int) (by decide) rfl (Nat.le_of_ble_eq_true rfl) ?_
  intro C hgL hgD hw h hret
  have hn8 := hz.n8
  have hk8 := hz.k8
  refine g_iload_n h (pc := 0) dX3_kind_0 1 rfl ?_
  refine g_iconst h (pc := 1) (v := 1) dX3_kind_1 (by decide) ?_
  refine g_sipush h (pc := 2) (v := 1000) dX3_kind_2 (by decide) ?_
  refine g_scallR h (pc := 5) (As := [.int x, .int (1), .int (1000)]) (st := []) dX3_kind_5 (c_out (gL C) (gD C) cI cO x (1) (1000)) [] rfl (by decide) gX3_kind_X3_isOutside rfl (show nPar yX3_isOutside RX3 3 = true by decide +kernel) ⟨Nat.le_of_ble_eq_true rfl, Nat.le_of_ble_eq_true rfl⟩ rfl (Nat.le_of_ble_eq_true rfl) ⟨Nat.zero_le _, Nat.zero_le _⟩ (fun r hr => ?_)
  subst hr
  cases ho : outB x 1 1000 with
  | true =>
    refine g_topi (y := 1) rfl ?_
    refine g_if_ne_t h (pc := 8) (tgt := 21) dX3_kind_8 (by decide) (by decide) ?_
    refine g_bipush h (pc := 21) (v := (-2)) dX3_kind_21 (by decide) ?_
    have e1 : (kindP nk Z d x y c) = (-2, Z, d) := by unfold kindP; rw [if_pos (by rw [ho]; rfl)]
    rw [e1] at hret
    exact hret _ u dX3_kind_23 rfl ⟨rfl, hRC⟩ rfl (Nat.zero_le _) (Nat.zero_le _)
  | false =>
    refine g_topi (y := 0) rfl ?_
    refine g_if_ne_f h (pc := 8) (tgt := 21) dX3_kind_8 (by decide) rfl ?_
    refine g_iload_n h (pc := 11) dX3_kind_11 2 rfl ?_
    refine g_iconst h (pc := 12) (v := 1) dX3_kind_12 (by decide) ?_
    refine g_bipush h (pc := 13) (v := 50) dX3_kind_13 (by decide) ?_
    refine g_scallR h (pc := 15) (As := [.int y, .int (1), .int (50)]) (st := []) dX3_kind_15 (c_out (gL C) (gD C) cI cO y (1) (50)) [] rfl (by decide) gX3_kind_X3_isOutside rfl (show nPar yX3_isOutside RX3 3 = true by decide +kernel) ⟨Nat.le_of_ble_eq_true rfl, Nat.le_of_ble_eq_true rfl⟩ rfl (Nat.le_of_ble_eq_true rfl) ⟨Nat.zero_le _, Nat.zero_le _⟩ (fun r hr => ?_)
    subst hr
    cases ho2 : outB y 1 50 with
    | true =>
      refine g_topi (y := 1) rfl ?_
      refine g_if_eq_f h (pc := 18) (tgt := 24) dX3_kind_18 (by decide) (by decide) ?_
      refine g_bipush h (pc := 21) (v := (-2)) dX3_kind_21 (by decide) ?_
      have e1 : (kindP nk Z d x y c) = (-2, Z, d) := by unfold kindP; rw [if_pos (by rw [ho, ho2]; rfl)]
      rw [e1] at hret
      exact hret _ u dX3_kind_23 rfl ⟨rfl, hRC⟩ rfl (Nat.zero_le _) (Nat.zero_le _)
    | false =>
      refine g_topi (y := 0) rfl ?_
      refine g_if_eq_t h (pc := 18) (tgt := 24) dX3_kind_18 (by decide) rfl ?_
      refine g_iload_n h (pc := 24) dX3_kind_24 3 rfl ?_
      refine g_iconst h (pc := 25) (v := (-1)) dX3_kind_25 (by decide) ?_
      have hA : ¬ (outB x 1 1000 || outB y 1 50) = true := by rw [ho, ho2]; decide
      have tl : (!decide (c = -1) && !isIn c nk) = false → GG C 5 (cw cI cO a u Z d) 0 0 42 [(0, .ref (a 0)), (1, .int x), (2, .int y), (3, .int c)] [] := by
        intro hB
        refine g_aload_n h (pc := 42) dX3_kind_42 0 rfl ?_
        refine g_get h (pc := 43) dX3_kind_43 iX3_kind_3 0 rfl rfl 0 (by decide) fX3_kind_10 rfl ?_
        refine g_get h (pc := 46) dX3_kind_46 iX3_kind_0 1 rfl rfl 8 (by decide) fX3_kind_60 rfl ?_
        refine g_topi hz.nk ?_
        refine g_bipush h (pc := 49) (v := 8) dX3_kind_49 (by decide) ?_
        by_cases h8 : 8 ≤ nk
        · refine g_icmp_lt_f h (pc := 51) (tgt := 57) dX3_kind_51 (by decide) (nI_nlt (a := nk) (b := 8) h8 (by omega)) ?_
          refine g_bipush h (pc := 54) (v := (-4)) dX3_kind_54 (by decide) ?_
          have e1 : (kindP nk Z d x y c) = (-4, Z, d) := by unfold kindP; rw [if_neg hA, if_neg (by rw [hB]; decide), if_pos h8]
          rw [e1] at hret
          exact hret _ u dX3_kind_56 rfl ⟨rfl, hRC⟩ rfl (Nat.zero_le _) (Nat.zero_le _)
        · refine g_icmp_lt_t h (pc := 51) (tgt := 57) dX3_kind_51 (by decide) (nI_lt (a := nk) (b := 8) (by omega) (by omega)) ?_
          have e1 : (kindP nk Z d x y c) = (nI nk, su (su (su (su (su Z 0 0 nk x) 1 0 nk y) 2 0 nk c) 14 0 0 (nI (nk + 1))) 6 0 nk 10, d) := by unfold kindP; rw [if_neg hA, if_neg (by rw [hB]; decide), if_neg h8]
          rw [e1] at hret
          refine g_aload_n h (pc := 57) dX3_kind_57 0 rfl ?_
          refine g_get h (pc := 58) dX3_kind_58 iX3_kind_3 0 rfl rfl 0 (by decide) fX3_kind_10 rfl ?_
          refine g_get h (pc := 61) dX3_kind_61 iX3_kind_0 1 rfl rfl 8 (by decide) fX3_kind_60 rfl ?_
          refine g_topi hz.nk ?_
          refine g_istore h (pc := 64) dX3_kind_64 (by decide) rfl ?_
          refine g_aload_n h (pc := 66) dX3_kind_66 0 rfl ?_
          refine g_get h (pc := 67) dX3_kind_67 iX3_kind_3 0 rfl rfl 0 (by decide) fX3_kind_10 rfl ?_
          refine g_get h (pc := 70) dX3_kind_70 iX3_kind_0 1 rfl rfl 0 (by decide) fX3_kind_63 rfl ?_
          refine g_iload h (pc := 73) dX3_kind_73 4 rfl ?_
          refine g_iload_n h (pc := 75) dX3_kind_75 1 rfl ?_
          refine g_iast h hw (pc := 76) (ws' := cw cI cO a u (su Z 0 0 nk x) d) dX3_kind_76 2 rfl (vp_in_nI (by omega) (by omega)) (by rw [nI_clamp (by omega)]; rfl) ?_
          refine g_aload_n h (pc := 77) dX3_kind_77 0 rfl ?_
          refine g_get h (pc := 78) dX3_kind_78 iX3_kind_3 0 rfl rfl 0 (by decide) fX3_kind_10 rfl ?_
          refine g_get h (pc := 81) dX3_kind_81 iX3_kind_0 1 rfl rfl 1 (by decide) fX3_kind_66 rfl ?_
          refine g_iload h (pc := 84) dX3_kind_84 4 rfl ?_
          refine g_iload_n h (pc := 86) dX3_kind_86 2 rfl ?_
          refine g_iast h hw (pc := 87) (ws' := cw cI cO a u (su (su Z 0 0 nk x) 1 0 nk y) d) dX3_kind_87 3 rfl (vp_in_nI (by omega) (by omega)) (by rw [nI_clamp (by omega)]; rfl) ?_
          refine g_aload_n h (pc := 88) dX3_kind_88 0 rfl ?_
          refine g_get h (pc := 89) dX3_kind_89 iX3_kind_3 0 rfl rfl 0 (by decide) fX3_kind_10 rfl ?_
          refine g_get h (pc := 92) dX3_kind_92 iX3_kind_0 1 rfl rfl 2 (by decide) fX3_kind_69 rfl ?_
          refine g_iload h (pc := 95) dX3_kind_95 4 rfl ?_
          refine g_iload_n h (pc := 97) dX3_kind_97 3 rfl ?_
          refine g_iast h hw (pc := 98) (ws' := cw cI cO a u (su (su (su Z 0 0 nk x) 1 0 nk y) 2 0 nk c) d) dX3_kind_98 4 rfl (vp_in_nI (by omega) (by omega)) (by rw [nI_clamp (by omega)]; rfl) ?_
          refine g_aload_n h (pc := 99) dX3_kind_99 0 rfl ?_
          refine g_get h (pc := 100) dX3_kind_100 iX3_kind_3 0 rfl rfl 0 (by decide) fX3_kind_10 rfl ?_
          refine g_dup h (pc := 103) dX3_kind_103 rfl ?_
          refine g_get h (pc := 104) dX3_kind_104 iX3_kind_0 1 rfl rfl 8 (by decide) fX3_kind_60 rfl ?_
          refine g_topi (y := nI nk) hz.nk ?_
          refine g_iconst h (pc := 107) (v := 1) dX3_kind_107 (by decide) ?_
          refine g_iadd h (pc := 108) dX3_kind_108  ?_
          refine g_topi (nI_1 nk) ?_
          refine g_put h hw (pc := 109) (ws' := cw cI cO a u (su (su (su (su Z 0 0 nk x) 1 0 nk y) 2 0 nk c) 14 0 0 (nI (nk + 1))) d) (ty := .int) dX3_kind_109 iX3_kind_0 tyX0 tyX0_ok nmX0 1 rfl rfl 8 (by decide) fX3_kind_60 rfl (by decide +kernel) rfl rfl (Nat.le_of_ble_eq_true rfl) rfl ?_
          refine g_aload_n h (pc := 112) dX3_kind_112 0 rfl ?_
          refine g_get h (pc := 113) dX3_kind_113 iX3_kind_3 0 rfl rfl 1 (by decide) fX3_kind_19 rfl ?_
          refine g_get h (pc := 116) dX3_kind_116 iX3_kind_2 10 rfl rfl 2 (by decide) fX3_kind_72 rfl ?_
          refine g_iconst h (pc := 119) (v := 0) dX3_kind_119 (by decide) ?_
          refine g_aald h (pc := 120) (v := a (10 + (4 + 0))) dX3_kind_120 13 rfl (vp_in_nI (n := 0) (by omega) (by omega)) rfl ?_
          refine g_iload h (pc := 121) dX3_kind_121 4 rfl ?_
          refine g_bipush h (pc := 123) (v := 10) dX3_kind_123 (by decide) ?_
          refine g_iast h hw (pc := 125) (ws' := cw cI cO a u (su (su (su (su (su Z 0 0 nk x) 1 0 nk y) 2 0 nk c) 14 0 0 (nI (nk + 1))) 6 0 nk 10) d) dX3_kind_125 (10 + (4 + 0)) (cw_m cI cO a u (su (su (su (su Z 0 0 nk x) 1 0 nk y) 2 0 nk c) 14 0 0 (nI (nk + 1))) d (by omega)) (vp_in_nI (by omega) (by omega)) (by rw [nI_clamp (by omega)]; exact cw_ms cI cO a u (su (su (su (su Z 0 0 nk x) 1 0 nk y) 2 0 nk c) 14 0 0 (nI (nk + 1))) d (by omega) nk _) ?_
          refine g_iload h (pc := 126) dX3_kind_126 4 rfl ?_
          exact hret _ u dX3_kind_128 rfl ⟨rfl, hRC⟩ rfl (Nat.zero_le _) (Nat.zero_le _)
      by_cases hc : c = -1
      · refine g_icmp_eq_t h (pc := 26) (tgt := 42) dX3_kind_26 (by decide) hc ?_
        exact tl (by rw [decide_eq_true hc]; rfl)
      · refine g_icmp_eq_f h (pc := 26) (tgt := 42) dX3_kind_26 (by decide) hc ?_
        refine g_aload_n h (pc := 29) dX3_kind_29 0 rfl ?_
        refine g_get h (pc := 30) dX3_kind_30 iX3_kind_3 0 rfl rfl 0 (by decide) fX3_kind_10 rfl ?_
        refine g_iload_n h (pc := 33) dX3_kind_33 3 rfl ?_
        refine g_callR h (pc := 34) (As := [.int c]) (st := []) dX3_kind_34 (c_khas (gL C) (gD C) cI cO (fun i => a (1 + i)) Z d.1 nk hz.k8 hz.nk c) [1, 2, 3, 4, 5, 6, 7, 8, 9] rfl (by decide) gX3_kind_X0_has rfl (q0 := 0) rfl rfl (show nPar yX0_has RX0 1 = true by decide +kernel) ⟨Nat.le_of_ble_eq_true rfl, Nat.le_of_ble_eq_true rfl⟩ rfl (Nat.le_of_ble_eq_true rfl) ⟨Nat.zero_le _, Nat.zero_le _⟩ (fun r hr => ?_)
        subst hr
        cases hi : isIn c nk with
        | true =>
          refine g_topi (y := 1) rfl ?_
          refine g_if_ne_t h (pc := 37) (tgt := 42) dX3_kind_37 (by decide) (by decide) ?_
          exact tl (by rw [hi]; simp)
        | false =>
          refine g_topi (y := 0) rfl ?_
          refine g_if_ne_f h (pc := 37) (tgt := 42) dX3_kind_37 (by decide) rfl ?_
          refine g_iconst h (pc := 40) (v := (-1)) dX3_kind_40 (by decide) ?_
          have e1 : (kindP nk Z d x y c) = (-1, Z, d) := by unfold kindP; rw [if_neg hA, if_pos (by rw [hi, decide_eq_false hc]; rfl)]
          rw [e1] at hret
          exact hret _ u dX3_kind_41 rfl ⟨rfl, hRC⟩ rfl (Nat.zero_le _) (Nat.zero_le _)
