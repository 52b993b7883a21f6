theorem iX4_rate_4 : ∀ w ∈ wsX40, w ∈ wsX4_rate := by decide +kernel
theorem fX4_rate_41 : Cond.fieldLink RX4 41 "SpareShelvesModel" "rates" "[I" ∈ wsX4_rate := by decide +kernel
set_option maxHeartbeats 4000000 in
set_option maxRecDepth 100000 in
theorem m_rate (l : Launch) (D : va_G) (cI cO : ClassId) (a : Nat → Nat) (v : MX) (Z : Sg) (d : Dy) (hRM : RM d v) (ns nk : Nat) (hz : Zv ns nk Z) (x y r0 : Int32) : CIm l yX4_rate wsX4_rate 2 50 D cI cO a v Z d [.int x, .int y, .int r0] (rateP ns nk Z d x y r0).1 (rateP ns nk Z d x y r0).2.1 (rateP ns nk Z d x y r0).2.2 := by
  unfold CIm
  refine CI.of (cc := cX4_rate) (maxL := 5) (rt := .int) (by decide) rfl (Nat.le_of_ble_eq_true rfl) ?_
  intro C hgL hgD hw h hret
  have hn8 := hz.n8
  have hk8 := hz.k8
  refine g_aload_n h (pc := 0) dX4_rate_0 0 rfl ?_
  refine g_iload_n h (pc := 1) dX4_rate_1 1 rfl ?_
  refine g_callR h (pc := 2) (As := [.int x]) (st := []) dX4_rate_2 (m_isS (gL C) (gD C) cI cO a v Z d hRM ns nk hz x) [0, 1, 2, 3, 4, 5, 6, 7, 8, 9, 10, 11, 12, 13, 14, 15, 16, 17, 18, 19, 20, 21, 22, 23, 24] rfl (by decide) gX4_rate_X4_isShelf rfl (q0 := 0) rfl rfl (show nPar yX4_isShelf RX4 1 = true by decide +kernel) ⟨Nat.le_of_ble_eq_true rfl, Nat.le_of_ble_eq_true rfl⟩ rfl (Nat.le_of_ble_eq_true rfl) ⟨Nat.zero_le _, Nat.zero_le _⟩ (fun r hr => ?_)
  subst hr
  cases hp1 : isIn x ns with
  | false =>
    refine g_topi (y := 0) rfl ?_
    refine g_if_eq_t h (pc := 5) (tgt := 16) dX4_rate_5 (by decide) rfl ?_
    have hp : (isIn x ns && isIn y nk) = false := by rw [hp1]; rfl
    refine g_iconst h (pc := 16) (v := (-1)) dX4_rate_16 (by decide) ?_
    have e1 : (rateP ns nk Z d x y r0) = (-1, Z, d) := by unfold rateP; rw [if_pos hp]
    rw [e1] at hret
    exact hret _ v dX4_rate_17 rfl ⟨rfl, hRM⟩ rfl (Nat.zero_le _) (Nat.zero_le _)
  | true =>
    refine g_topi (y := 1) rfl ?_
    refine g_if_eq_f h (pc := 5) (tgt := 16) dX4_rate_5 (by decide) (by decide) ?_
    refine g_aload_n h (pc := 8) dX4_rate_8 0 rfl ?_
    refine g_iload_n h (pc := 9) dX4_rate_9 2 rfl ?_
    refine g_callR h (pc := 10) (As := [.int y]) (st := []) dX4_rate_10 (m_isK (gL C) (gD C) cI cO a v Z d hRM ns nk hz y) [0, 1, 2, 3, 4, 5, 6, 7, 8, 9, 10, 11, 12, 13, 14, 15, 16, 17, 18, 19, 20, 21, 22, 23, 24] rfl (by decide) gX4_rate_X4_isKind rfl (q0 := 0) rfl rfl (show nPar yX4_isKind RX4 1 = true by decide +kernel) ⟨Nat.le_of_ble_eq_true rfl, Nat.le_of_ble_eq_true rfl⟩ rfl (Nat.le_of_ble_eq_true rfl) ⟨Nat.zero_le _, Nat.zero_le _⟩ (fun r hr => ?_)
    subst hr
    cases hp2 : isIn y nk with
    | false =>
      refine g_topi (y := 0) rfl ?_
      refine g_if_ne_f h (pc := 13) (tgt := 18) dX4_rate_13 (by decide) rfl ?_
      have hp : (isIn x ns && isIn y nk) = false := by rw [hp1, hp2]; rfl
      refine g_iconst h (pc := 16) (v := (-1)) dX4_rate_16 (by decide) ?_
      have e1 : (rateP ns nk Z d x y r0) = (-1, Z, d) := by unfold rateP; rw [if_pos hp]
      rw [e1] at hret
      exact hret _ v dX4_rate_17 rfl ⟨rfl, hRM⟩ rfl (Nat.zero_le _) (Nat.zero_le _)
    | true =>
      refine g_topi (y := 1) rfl ?_
      refine g_if_ne_t h (pc := 13) (tgt := 18) dX4_rate_13 (by decide) (by decide) ?_
      have hp : (isIn x ns && isIn y nk) = true := by rw [hp1, hp2]; rfl
      obtain ⟨s, hs, rfl⟩ := isIn_of (by omega) hp1
      obtain ⟨k, hk, rfl⟩ := isIn_of (by omega) hp2
      have ts : tN (nI s) = s := nI_clamp (by omega)
      have tk : tN (nI k) = k := nI_clamp (by omega)
      refine g_iload_n h (pc := 18) dX4_rate_18 3 rfl ?_
      refine g_iconst h (pc := 19) (v := 0) dX4_rate_19 (by decide) ?_
      refine g_sipush h (pc := 20) (v := 10000) dX4_rate_20 (by decide) ?_
      refine g_scallR h (pc := 23) (As := [.int r0, .int (0), .int (10000)]) (st := []) dX4_rate_23 (m_in (gL C) (gD C) cI cO r0 (0) (10000)) [] rfl (by decide) gX4_rate_X4_in rfl (show nPar yX4_in RX4 3 = true by decide +kernel) ⟨Nat.le_of_ble_eq_true rfl, Nat.le_of_ble_eq_true rfl⟩ rfl (Nat.le_of_ble_eq_true rfl) ⟨Nat.zero_le _, Nat.zero_le _⟩ (fun r hr => ?_)
      subst hr
      cases ho : outB r0 0 10000 with
      | true =>
        refine g_topi (y := 0) rfl ?_
        refine g_if_ne_f h (pc := 26) (tgt := 32) dX4_rate_26 (by decide) rfl ?_
        refine g_bipush h (pc := 29) (v := (-2)) dX4_rate_29 (by decide) ?_
        have e1 : (rateP ns nk Z d (nI s) (nI k) r0) = (-2, Z, d) := by unfold rateP; rw [hp, if_neg (by decide), if_pos ho]
        rw [e1] at hret
        exact hret _ v dX4_rate_31 rfl ⟨rfl, hRM⟩ rfl (Nat.zero_le _) (Nat.zero_le _)
      | false =>
        refine g_topi (y := 1) rfl ?_
        refine g_if_ne_t h (pc := 26) (tgt := 32) dX4_rate_26 (by decide) (by decide) ?_
        have e1 : (rateP ns nk Z d (nI s) (nI k) r0) = (Z 8 s k, su Z 8 s k r0, d) := by unfold rateP; rw [hp, if_neg (by decide), if_neg (by rw [ho]; decide), ts, tk]
        rw [e1] at hret
        refine g_aload_n h (pc := 32) dX4_rate_32 0 rfl ?_
        refine g_get h (pc := 33) dX4_rate_33 iX4_rate_4 0 rfl rfl 11 (by decide) fX4_rate_41 rfl ?_
        refine g_bipush h (pc := 36) (v := 8) dX4_rate_36 (by decide) ?_
        refine g_iload_n h (pc := 38) dX4_rate_38 1 rfl ?_
        refine g_imul h (pc := 39) dX4_rate_39  ?_
        refine g_iload_n h (pc := 40) dX4_rate_40 2 rfl ?_
        refine g_iadd h (pc := 41) dX4_rate_41  ?_
        refine g_topi (nI_83 s k) ?_
        refine g_iald h (pc := 42) (v := Z 8 s k) dX4_rate_42 9 rfl (vp_in_nI (by omega) (by omega)) (by rw [nI_clamp (by omega)]; exact fl2_at _ (by omega)) ?_
        refine g_istore h (pc := 43) dX4_rate_43 (by decide) rfl ?_
        refine g_aload_n h (pc := 45) dX4_rate_45 0 rfl ?_
        refine g_get h (pc := 46) dX4_rate_46 iX4_rate_4 0 rfl rfl 11 (by decide) fX4_rate_41 rfl ?_
        refine g_bipush h (pc := 49) (v := 8) dX4_rate_49 (by decide) ?_
        refine g_iload_n h (pc := 51) dX4_rate_51 1 rfl ?_
        refine g_imul h (pc := 52) dX4_rate_52  ?_
        refine g_iload_n h (pc := 53) dX4_rate_53 2 rfl ?_
        refine g_iadd h (pc := 54) dX4_rate_54  ?_
        refine g_topi (nI_83 s k) ?_
        refine g_iload_n h (pc := 55) dX4_rate_55 3 rfl ?_
        refine g_iast h hw (pc := 56) (ws' := mw cI a v (su Z 8 s k r0) d.1 (nI d.2.1.length) (nI d.2.2.1.length)) dX4_rate_56 9 rfl (vp_in_nI (by omega) (by omega)) (by rw [nI_clamp (by omega)]; exact mw_rs cI a v Z d.1 (nI d.2.1.length) (nI d.2.2.1.length) s (by omega) _) ?_
        refine g_iload h (pc := 57) dX4_rate_57 4 rfl ?_
        exact hret _ v dX4_rate_59 rfl ⟨rfl, hRM⟩ rfl (Nat.zero_le _) (Nat.zero_le _)

theorem iX4_mend_4 : ∀ w ∈ wsX40, w ∈ wsX4_mend := by decide +kernel
theorem fX4_mend_35 : Cond.fieldLink RX4 35 "SpareShelvesModel" "mends" "[I" ∈ wsX4_mend := by decide +kernel
set_option maxHeartbeats 4000000 in
set_option maxRecDepth 100000 in
theorem m_mend (l : Launch) (D : va_G) (cI cO : ClassId) (a : Nat → Nat) (v : MX) (Z : Sg) (d : Dy) (hRM : RM d v) (ns nk : Nat) (hz : Zv ns nk Z) (hlA : d.2.1.length ≤ 5900) (x y b : Int32) : CIm l yX4_mend wsX4_mend 2 50 D cI cO a v Z d [.int x, .int y, .int b] (mendP ns nk Z d x y b).1 (mendP ns nk Z d x y b).2.1 (mendP ns nk Z d x y b).2.2 := by
  unfold CIm
  refine CI.of (cc := cX4_mend) (maxL := 5) (rt := .int) (by decide) rfl (Nat.le_of_ble_eq_true rfl) ?_
  intro C hgL hgD hw h hret
  have hn8 := hz.n8
  have hk8 := hz.k8
  refine g_aload_n h (pc := 0) dX4_mend_0 0 rfl ?_
  refine g_iload_n h (pc := 1) dX4_mend_1 1 rfl ?_
  refine g_callR h (pc := 2) (As := [.int x]) (st := []) dX4_mend_2 (m_isS (gL C) (gD C) cI cO a v Z d hRM ns nk hz x) [0, 1, 2, 3, 4, 5, 6, 7, 8, 9, 10, 11, 12, 13, 14, 15, 16, 17, 18, 19, 20, 21, 22, 23, 24] rfl (by decide) gX4_mend_X4_isShelf rfl (q0 := 0) rfl rfl (show nPar yX4_isShelf RX4 1 = true by decide +kernel) ⟨Nat.le_of_ble_eq_true rfl, Nat.le_of_ble_eq_true rfl⟩ rfl (Nat.le_of_ble_eq_true rfl) ⟨Nat.zero_le _, Nat.zero_le _⟩ (fun r hr => ?_)
  subst hr
  cases hp1 : isIn x ns with
  | false =>
    refine g_topi (y := 0) rfl ?_
    refine g_if_eq_t h (pc := 5) (tgt := 16) dX4_mend_5 (by decide) rfl ?_
    have hp : (isIn x ns && isIn y nk) = false := by rw [hp1]; rfl
    refine g_iconst h (pc := 16) (v := (-1)) dX4_mend_16 (by decide) ?_
    have e1 : (mendP ns nk Z d x y b) = (-1, Z, d) := by unfold mendP; rw [if_pos hp]
    rw [e1] at hret
    exact hret _ v dX4_mend_17 rfl ⟨rfl, hRM⟩ rfl (Nat.zero_le _) (Nat.zero_le _)
  | true =>
    refine g_topi (y := 1) rfl ?_
    refine g_if_eq_f h (pc := 5) (tgt := 16) dX4_mend_5 (by decide) (by decide) ?_
    refine g_aload_n h (pc := 8) dX4_mend_8 0 rfl ?_
    refine g_iload_n h (pc := 9) dX4_mend_9 2 rfl ?_
    refine g_callR h (pc := 10) (As := [.int y]) (st := []) dX4_mend_10 (m_isK (gL C) (gD C) cI cO a v Z d hRM ns nk hz y) [0, 1, 2, 3, 4, 5, 6, 7, 8, 9, 10, 11, 12, 13, 14, 15, 16, 17, 18, 19, 20, 21, 22, 23, 24] rfl (by decide) gX4_mend_X4_isKind rfl (q0 := 0) rfl rfl (show nPar yX4_isKind RX4 1 = true by decide +kernel) ⟨Nat.le_of_ble_eq_true rfl, Nat.le_of_ble_eq_true rfl⟩ rfl (Nat.le_of_ble_eq_true rfl) ⟨Nat.zero_le _, Nat.zero_le _⟩ (fun r hr => ?_)
    subst hr
    cases hp2 : isIn y nk with
    | false =>
      refine g_topi (y := 0) rfl ?_
      refine g_if_ne_f h (pc := 13) (tgt := 18) dX4_mend_13 (by decide) rfl ?_
      have hp : (isIn x ns && isIn y nk) = false := by rw [hp1, hp2]; rfl
      refine g_iconst h (pc := 16) (v := (-1)) dX4_mend_16 (by decide) ?_
      have e1 : (mendP ns nk Z d x y b) = (-1, Z, d) := by unfold mendP; rw [if_pos hp]
      rw [e1] at hret
      exact hret _ v dX4_mend_17 rfl ⟨rfl, hRM⟩ rfl (Nat.zero_le _) (Nat.zero_le _)
    | true =>
      refine g_topi (y := 1) rfl ?_
      refine g_if_ne_t h (pc := 13) (tgt := 18) dX4_mend_13 (by decide) (by decide) ?_
      have hp : (isIn x ns && isIn y nk) = true := by rw [hp1, hp2]; rfl
      obtain ⟨s, hs, rfl⟩ := isIn_of (by omega) hp1
      obtain ⟨k, hk, rfl⟩ := isIn_of (by omega) hp2
      have ts : tN (nI s) = s := nI_clamp (by omega)
      have tk : tN (nI k) = k := nI_clamp (by omega)
      refine g_iload_n h (pc := 18) dX4_mend_18 3 rfl ?_
      refine g_iconst h (pc := 19) (v := 0) dX4_mend_19 (by decide) ?_
      refine g_bipush h (pc := 20) (v := 30) dX4_mend_20 (by decide) ?_
      refine g_scallR h (pc := 22) (As := [.int b, .int (0), .int (30)]) (st := []) dX4_mend_22 (m_in (gL C) (gD C) cI cO b (0) (30)) [] rfl (by decide) gX4_mend_X4_in rfl (show nPar yX4_in RX4 3 = true by decide +kernel) ⟨Nat.le_of_ble_eq_true rfl, Nat.le_of_ble_eq_true rfl⟩ rfl (Nat.le_of_ble_eq_true rfl) ⟨Nat.zero_le _, Nat.zero_le _⟩ (fun r hr => ?_)
      subst hr
      cases ho : outB b 0 30 with
      | true =>
        refine g_topi (y := 0) rfl ?_
        refine g_if_eq_t h (pc := 25) (tgt := 36) dX4_mend_25 (by decide) rfl ?_
        refine g_bipush h (pc := 36) (v := (-2)) dX4_mend_36 (by decide) ?_
        have e1 : (mendP ns nk Z d (nI s) (nI k) b) = (-2, Z, d) := by unfold mendP; rw [hp, if_neg (by decide), if_pos (Or.inl ho)]
        rw [e1] at hret
        exact hret _ v dX4_mend_38 rfl ⟨rfl, hRM⟩ rfl (Nat.zero_le _) (Nat.zero_le _)
      | false =>
        refine g_topi (y := 1) rfl ?_
        refine g_if_eq_f h (pc := 25) (tgt := 36) dX4_mend_25 (by decide) (by decide) ?_
        refine g_iload_n h (pc := 28) dX4_mend_28 1 rfl ?_
        by_cases hb : b = 0
        · by_cases hs0 : nI s = 0
          · refine g_if_ne_f h (pc := 29) (tgt := 39) dX4_mend_29 (by decide) hs0 ?_
            refine g_iload_n h (pc := 32) dX4_mend_32 3 rfl ?_
            refine g_if_ne_f h (pc := 33) (tgt := 39) dX4_mend_33 (by decide) hb ?_
            refine g_bipush h (pc := 36) (v := (-2)) dX4_mend_36 (by decide) ?_
            have e1 : (mendP ns nk Z d (nI s) (nI k) b) = (-2, Z, d) := by unfold mendP; rw [hp, if_neg (by decide), if_pos (Or.inr ⟨hs0, hb⟩)]
            rw [e1] at hret
            exact hret _ v dX4_mend_38 rfl ⟨rfl, hRM⟩ rfl (Nat.zero_le _) (Nat.zero_le _)
          · refine g_if_ne_t h (pc := 29) (tgt := 39) dX4_mend_29 (by decide) hs0 ?_
            refine g_iload_n h (pc := 39) dX4_mend_39 3 rfl ?_
            refine g_if_ne_f h (pc := 40) (tgt := 55) dX4_mend_40 (by decide) hb ?_
            refine g_aload_n h (pc := 43) dX4_mend_43 0 rfl ?_
            refine g_iload_n h (pc := 44) dX4_mend_44 1 rfl ?_
            refine g_iload_n h (pc := 45) dX4_mend_45 2 rfl ?_
            refine g_callR h (pc := 46) (As := [.int (nI s), .int (nI k)]) (st := []) dX4_mend_46 (m_wait (gL C) (gD C) cI cO a v Z d hRM ns nk hz hlA s k hs hk) [0, 1, 2, 3, 4, 5, 6, 7, 8, 9, 10, 11, 12, 13, 14, 15, 16, 17, 18, 19, 20, 21, 22, 23, 24] rfl (by decide) gX4_mend_X4_waiting rfl (q0 := 0) rfl rfl (show nPar yX4_waiting RX4 2 = true by decide +kernel) ⟨Nat.le_of_ble_eq_true rfl, Nat.le_of_ble_eq_true rfl⟩ rfl (Nat.le_of_ble_eq_true rfl) ⟨Nat.zero_le _, Nat.zero_le _⟩ (fun r hr => ?_)
            subst hr
            refine g_if_le h (pc := 49) (tgt := 55) dX4_mend_49 (by decide) (fun c5 => ?_) (fun c5 => ?_)
            · have e1 : (mendP ns nk Z d (nI s) (nI k) b) = (Z 6 s k, su Z 6 s k b, d) := by unfold mendP; rw [hp, if_neg (by decide), if_neg (by rw [ho]; exact fun q => q.elim (fun q => absurd q (by decide)) (fun q => hs0 q.1)), if_neg (fun q => absurd c5 (Int32.not_le.mpr q.2)), ts, tk]
              rw [e1] at hret
              refine g_aload_n h (pc := 55) dX4_mend_55 0 rfl ?_
              refine g_get h (pc := 56) dX4_mend_56 iX4_mend_4 0 rfl rfl 9 (by decide) fX4_mend_35 rfl ?_
              refine g_bipush h (pc := 59) (v := 8) dX4_mend_59 (by decide) ?_
              refine g_iload_n h (pc := 61) dX4_mend_61 1 rfl ?_
              refine g_imul h (pc := 62) dX4_mend_62  ?_
              refine g_iload_n h (pc := 63) dX4_mend_63 2 rfl ?_
              refine g_iadd h (pc := 64) dX4_mend_64  ?_
              refine g_topi (nI_83 s k) ?_
              refine g_iald h (pc := 65) (v := Z 6 s k) dX4_mend_65 7 rfl (vp_in_nI (by omega) (by omega)) (by rw [nI_clamp (by omega)]; exact fl2_at _ (by omega)) ?_
              refine g_istore h (pc := 66) dX4_mend_66 (by decide) rfl ?_
              refine g_aload_n h (pc := 68) dX4_mend_68 0 rfl ?_
              refine g_get h (pc := 69) dX4_mend_69 iX4_mend_4 0 rfl rfl 9 (by decide) fX4_mend_35 rfl ?_
              refine g_bipush h (pc := 72) (v := 8) dX4_mend_72 (by decide) ?_
              refine g_iload_n h (pc := 74) dX4_mend_74 1 rfl ?_
              refine g_imul h (pc := 75) dX4_mend_75  ?_
              refine g_iload_n h (pc := 76) dX4_mend_76 2 rfl ?_
              refine g_iadd h (pc := 77) dX4_mend_77  ?_
              refine g_topi (nI_83 s k) ?_
              refine g_iload_n h (pc := 78) dX4_mend_78 3 rfl ?_
              refine g_iast h hw (pc := 79) (ws' := mw cI a v (su Z 6 s k b) d.1 (nI d.2.1.length) (nI d.2.2.1.length)) dX4_mend_79 7 rfl (vp_in_nI (by omega) (by omega)) (by rw [nI_clamp (by omega)]; exact mw_ms cI a v Z d.1 (nI d.2.1.length) (nI d.2.2.1.length) s (by omega) _) ?_
              refine g_iload h (pc := 80) dX4_mend_80 4 rfl ?_
              exact hret _ v dX4_mend_82 rfl ⟨rfl, hRM⟩ rfl (Nat.zero_le _) (Nat.zero_le _)
            · refine g_bipush h (pc := 52) (v := (-3)) dX4_mend_52 (by decide) ?_
              have e1 : (mendP ns nk Z d (nI s) (nI k) b) = (-3, Z, d) := by unfold mendP; rw [hp, if_neg (by decide), if_neg (by rw [ho]; exact fun q => q.elim (fun q => absurd q (by decide)) (fun q => hs0 q.1)), if_pos ⟨hb, Int32.not_le.mp c5⟩]
              rw [e1] at hret
              exact hret _ v dX4_mend_54 rfl ⟨rfl, hRM⟩ rfl (Nat.zero_le _) (Nat.zero_le _)
        · have hbad : ¬ (outB b 0 30 = true ∨ (nI s = 0 ∧ b = 0)) := by rw [ho]; exact fun q => q.elim (fun q => absurd q (by decide)) (fun q => hb q.2)
          refine g_if_ne h (pc := 29) (tgt := 39) dX4_mend_29 (by decide) (fun c4 => ?_) (fun c4 => ?_)
          · refine g_iload_n h (pc := 39) dX4_mend_39 3 rfl ?_
            refine g_if_ne_t h (pc := 40) (tgt := 55) dX4_mend_40 (by decide) hb ?_
            have e1 : (mendP ns nk Z d (nI s) (nI k) b) = (Z 6 s k, su Z 6 s k b, d) := by unfold mendP; rw [hp, if_neg (by decide), if_neg (hbad), if_neg (fun q => hb q.1), ts, tk]
            rw [e1] at hret
            refine g_aload_n h (pc := 55) dX4_mend_55 0 rfl ?_
            refine g_get h (pc := 56) dX4_mend_56 iX4_mend_4 0 rfl rfl 9 (by decide) fX4_mend_35 rfl ?_
            refine g_bipush h (pc := 59) (v := 8) dX4_mend_59 (by decide) ?_
            refine g_iload_n h (pc := 61) dX4_mend_61 1 rfl ?_
            refine g_imul h (pc := 62) dX4_mend_62  ?_
            refine g_iload_n h (pc := 63) dX4_mend_63 2 rfl ?_
            refine g_iadd h (pc := 64) dX4_mend_64  ?_
            refine g_topi (nI_83 s k) ?_
            refine g_iald h (pc := 65) (v := Z 6 s k) dX4_mend_65 7 rfl (vp_in_nI (by omega) (by omega)) (by rw [nI_clamp (by omega)]; exact fl2_at _ (by omega)) ?_
            refine g_istore h (pc := 66) dX4_mend_66 (by decide) rfl ?_
            refine g_aload_n h (pc := 68) dX4_mend_68 0 rfl ?_
            refine g_get h (pc := 69) dX4_mend_69 iX4_mend_4 0 rfl rfl 9 (by decide) fX4_mend_35 rfl ?_
            refine g_bipush h (pc := 72) (v := 8) dX4_mend_72 (by decide) ?_
            refine g_iload_n h (pc := 74) dX4_mend_74 1 rfl ?_
            refine g_imul h (pc := 75) dX4_mend_75  ?_
            refine g_iload_n h (pc := 76) dX4_mend_76 2 rfl ?_
            refine g_iadd h (pc := 77) dX4_mend_77  ?_
            refine g_topi (nI_83 s k) ?_
            refine g_iload_n h (pc := 78) dX4_mend_78 3 rfl ?_
            refine g_iast h hw (pc := 79) (ws' := mw cI a v (su Z 6 s k b) d.1 (nI d.2.1.length) (nI d.2.2.1.length)) dX4_mend_79 7 rfl (vp_in_nI (by omega) (by omega)) (by rw [nI_clamp (by omega)]; exact mw_ms cI a v Z d.1 (nI d.2.1.length) (nI d.2.2.1.length) s (by omega) _) ?_
            refine g_iload h (pc := 80) dX4_mend_80 4 rfl ?_
            exact hret _ v dX4_mend_82 rfl ⟨rfl, hRM⟩ rfl (Nat.zero_le _) (Nat.zero_le _)
          · refine g_iload_n h (pc := 32) dX4_mend_32 3 rfl ?_
            refine g_if_ne_t h (pc := 33) (tgt := 39) dX4_mend_33 (by decide) hb ?_
            refine g_iload_n h (pc := 39) dX4_mend_39 3 rfl ?_
            refine g_if_ne_t h (pc := 40) (tgt := 55) dX4_mend_40 (by decide) hb ?_
            have e1 : (mendP ns nk Z d (nI s) (nI k) b) = (Z 6 s k, su Z 6 s k b, d) := by unfold mendP; rw [hp, if_neg (by decide), if_neg (hbad), if_neg (fun q => hb q.1), ts, tk]
            rw [e1] at hret
            refine g_aload_n h (pc := 55) dX4_mend_55 0 rfl ?_
            refine g_get h (pc := 56) dX4_mend_56 iX4_mend_4 0 rfl rfl 9 (by decide) fX4_mend_35 rfl ?_
            refine g_bipush h (pc := 59) (v := 8) dX4_mend_59 (by decide) ?_
            refine g_iload_n h (pc := 61) dX4_mend_61 1 rfl ?_
            refine g_imul h (pc := 62) dX4_mend_62  ?_
            refine g_iload_n h (pc := 63) dX4_mend_63 2 rfl ?_
            refine g_iadd h (pc := 64) dX4_mend_64  ?_
            refine g_topi (nI_83 s k) ?_
            refine g_iald h (pc := 65) (v := Z 6 s k) dX4_mend_65 7 rfl (vp_in_nI (by omega) (by omega)) (by rw [nI_clamp (by omega)]; exact fl2_at _ (by omega)) ?_
            refine g_istore h (pc := 66) dX4_mend_66 (by decide) rfl ?_
            refine g_aload_n h (pc := 68) dX4_mend_68 0 rfl ?_
            refine g_get h (pc := 69) dX4_mend_69 iX4_mend_4 0 rfl rfl 9 (by decide) fX4_mend_35 rfl ?_
            refine g_bipush h (pc := 72) (v := 8) dX4_mend_72 (by decide) ?_
            refine g_iload_n h (pc := 74) dX4_mend_74 1 rfl ?_
            refine g_imul h (pc := 75) dX4_mend_75  ?_
            refine g_iload_n h (pc := 76) dX4_mend_76 2 rfl ?_
            refine g_iadd h (pc := 77) dX4_mend_77  ?_
            refine g_topi (nI_83 s k) ?_
            refine g_iload_n h (pc := 78) dX4_mend_78 3 rfl ?_
            refine g_iast h hw (pc := 79) (ws' := mw cI a v (su Z 6 s k b) d.1 (nI d.2.1.length) (nI d.2.2.1.length)) dX4_mend_79 7 rfl (vp_in_nI (by omega) (by omega)) (by rw [nI_clamp (by omega)]; exact mw_ms cI a v Z d.1 (nI d.2.1.length) (nI d.2.2.1.length) s (by omega) _) ?_
            refine g_iload h (pc := 80) dX4_mend_80 4 rfl ?_
            exact hret _ v dX4_mend_82 rfl ⟨rfl, hRM⟩ rfl (Nat.zero_le _) (Nat.zero_le _)

theorem iX4_shelf_4 : ∀ w ∈ wsX40, w ∈ wsX4_shelf := by decide +kernel
theorem fX4_shelf_23 : Cond.fieldLink RX4 23 "SpareShelvesModel" "shelves" "I" ∈ wsX4_shelf := by decide +kernel
theorem fX4_shelf_26 : Cond.fieldLink RX4 26 "SpareShelvesModel" "up" "[I" ∈ wsX4_shelf := by decide +kernel
theorem fX4_shelf_29 : Cond.fieldLink RX4 29 "SpareShelvesModel" "way" "[I" ∈ wsX4_shelf := by decide +kernel
set_option maxHeartbeats 4000000 in
set_option maxRecDepth 100000 in
theorem m_shelf (l : Launch) (D : va_G) (cI cO : ClassId) (a : Nat → Nat) (v : MX) (Z : Sg) (d : Dy) (hRM : RM d v) (ns nk : Nat) (hz : Zv ns nk Z) (x y : Int32) : CIm l yX4_shelf wsX4_shelf 2 50 D cI cO a v Z d [.int x, .int y] (shelfP ns Z d x y).1 (shelfP ns Z d x y).2.1 (shelfP ns Z d x y).2.2 := by
  unfold CIm
  refine CI.of (cc := cX4_shelf) (maxL := 3) (rt := .int) (by decide) rfl (Nat.le_of_ble_eq_true rfl) ?_
  intro C hgL hgD hw h hret
  have hn8 := hz.n8
  have hk8 := hz.k8
  refine g_aload_n h (pc := 0) dX4_shelf_0 0 rfl ?_
  refine g_iload_n h (pc := 1) dX4_shelf_1 1 rfl ?_
  refine g_callR h (pc := 2) (As := [.int x]) (st := []) dX4_shelf_2 (m_isS (gL C) (gD C) cI cO a v Z d hRM ns nk hz x) [0, 1, 2, 3, 4, 5, 6, 7, 8, 9, 10, 11, 12, 13, 14, 15, 16, 17, 18, 19, 20, 21, 22, 23, 24] rfl (by decide) gX4_shelf_X4_isShelf rfl (q0 := 0) rfl rfl (show nPar yX4_isShelf RX4 1 = true by decide +kernel) ⟨Nat.le_of_ble_eq_true rfl, Nat.le_of_ble_eq_true rfl⟩ rfl (Nat.le_of_ble_eq_true rfl) ⟨Nat.zero_le _, Nat.zero_le _⟩ (fun r hr => ?_)
  subst hr
  cases hp : isIn x ns with
  | false =>
    refine g_topi (y := 0) rfl ?_
    refine g_if_ne_f h (pc := 5) (tgt := 10) dX4_shelf_5 (by decide) rfl ?_
    refine g_iconst h (pc := 8) (v := (-1)) dX4_shelf_8 (by decide) ?_
    have e1 : (shelfP ns Z d x y) = (-1, Z, d) := by unfold shelfP; rw [if_pos hp]
    rw [e1] at hret
    exact hret _ v dX4_shelf_9 rfl ⟨rfl, hRM⟩ rfl (Nat.zero_le _) (Nat.zero_le _)
  | true =>
    refine g_topi (y := 1) rfl ?_
    refine g_if_ne_t h (pc := 5) (tgt := 10) dX4_shelf_5 (by decide) (by decide) ?_
    refine g_iload_n h (pc := 10) dX4_shelf_10 2 rfl ?_
    refine g_iconst h (pc := 11) (v := 1) dX4_shelf_11 (by decide) ?_
    refine g_bipush h (pc := 12) (v := 20) dX4_shelf_12 (by decide) ?_
    refine g_scallR h (pc := 14) (As := [.int y, .int (1), .int (20)]) (st := []) dX4_shelf_14 (m_in (gL C) (gD C) cI cO y (1) (20)) [] rfl (by decide) gX4_shelf_X4_in rfl (show nPar yX4_in RX4 3 = true by decide +kernel) ⟨Nat.le_of_ble_eq_true rfl, Nat.le_of_ble_eq_true rfl⟩ rfl (Nat.le_of_ble_eq_true rfl) ⟨Nat.zero_le _, Nat.zero_le _⟩ (fun r hr => ?_)
    subst hr
    cases ho : outB y 1 20 with
    | true =>
      refine g_topi (y := 0) rfl ?_
      refine g_if_ne_f h (pc := 17) (tgt := 23) dX4_shelf_17 (by decide) rfl ?_
      refine g_bipush h (pc := 20) (v := (-2)) dX4_shelf_20 (by decide) ?_
      have e1 : (shelfP ns Z d x y) = (-2, Z, d) := by unfold shelfP; rw [hp, if_neg (by decide), if_pos ho]
      rw [e1] at hret
      exact hret _ v dX4_shelf_22 rfl ⟨rfl, hRM⟩ rfl (Nat.zero_le _) (Nat.zero_le _)
    | false =>
      refine g_topi (y := 1) rfl ?_
      refine g_if_ne_t h (pc := 17) (tgt := 23) dX4_shelf_17 (by decide) (by decide) ?_
      refine g_aload_n h (pc := 23) dX4_shelf_23 0 rfl ?_
      refine g_get h (pc := 24) dX4_shelf_24 iX4_shelf_4 0 rfl rfl 5 (by decide) fX4_shelf_23 rfl ?_
      refine g_topi hz.ns ?_
      refine g_bipush h (pc := 27) (v := 8) dX4_shelf_27 (by decide) ?_
      by_cases h8 : 8 ≤ ns
      · refine g_icmp_ne_f h (pc := 29) (tgt := 35) dX4_shelf_29 (by decide) (show nI ns = nI 8 by rw [show ns = 8 by omega]) ?_
        refine g_bipush h (pc := 32) (v := (-4)) dX4_shelf_32 (by decide) ?_
        have e1 : (shelfP ns Z d x y) = (-4, Z, d) := by unfold shelfP; rw [hp, if_neg (by decide), if_neg (by rw [ho]; decide), if_pos h8]
        rw [e1] at hret
        exact hret _ v dX4_shelf_34 rfl ⟨rfl, hRM⟩ rfl (Nat.zero_le _) (Nat.zero_le _)
      · refine g_icmp_ne_t h (pc := 29) (tgt := 35) dX4_shelf_29 (by decide) (fun q => h8 (Nat.le_of_eq ((nI_eq (a := ns) (b := 8) (by omega) (by omega)).mp q).symm)) ?_
        have e1 : (shelfP ns Z d x y) = (nI ns, (su (su (su Z 3 0 ns x) 4 0 ns y) 14 0 1 (nI (ns + 1))), d) := by unfold shelfP; rw [hp, if_neg (by decide), if_neg (by rw [ho]; decide), if_neg h8]
        rw [e1] at hret
        refine g_aload_n h (pc := 35) dX4_shelf_35 0 rfl ?_
        refine g_get h (pc := 36) dX4_shelf_36 iX4_shelf_4 0 rfl rfl 6 (by decide) fX4_shelf_26 rfl ?_
        refine g_aload_n h (pc := 39) dX4_shelf_39 0 rfl ?_
        refine g_get h (pc := 40) dX4_shelf_40 iX4_shelf_4 0 rfl rfl 5 (by decide) fX4_shelf_23 rfl ?_
        refine g_topi (y := nI ns) hz.ns ?_
        refine g_iload_n h (pc := 43) dX4_shelf_43 1 rfl ?_
        refine g_iast h hw (pc := 44) (ws' := mw cI a v (su Z 3 0 ns x) d.1 (nI d.2.1.length) (nI d.2.2.1.length)) dX4_shelf_44 4 rfl (vp_in_nI (by omega) (by omega)) (by rw [nI_clamp (by omega)]; rfl) ?_
        refine g_aload_n h (pc := 45) dX4_shelf_45 0 rfl ?_
        refine g_get h (pc := 46) dX4_shelf_46 iX4_shelf_4 0 rfl rfl 7 (by decide) fX4_shelf_29 rfl ?_
        refine g_aload_n h (pc := 49) dX4_shelf_49 0 rfl ?_
        refine g_get h (pc := 50) dX4_shelf_50 iX4_shelf_4 0 rfl rfl 5 (by decide) fX4_shelf_23 rfl ?_
        refine g_topi (y := nI ns) hz.ns ?_
        refine g_iload_n h (pc := 53) dX4_shelf_53 2 rfl ?_
        refine g_iast h hw (pc := 54) (ws' := mw cI a v (su (su Z 3 0 ns x) 4 0 ns y) d.1 (nI d.2.1.length) (nI d.2.2.1.length)) dX4_shelf_54 5 rfl (vp_in_nI (by omega) (by omega)) (by rw [nI_clamp (by omega)]; rfl) ?_
        refine g_aload_n h (pc := 55) dX4_shelf_55 0 rfl ?_
        refine g_dup h (pc := 56) dX4_shelf_56 rfl ?_
        refine g_get h (pc := 57) dX4_shelf_57 iX4_shelf_4 0 rfl rfl 5 (by decide) fX4_shelf_23 rfl ?_
        refine g_topi (y := nI ns) hz.ns ?_
        refine g_iconst h (pc := 60) (v := 1) dX4_shelf_60 (by decide) ?_
        refine g_iadd h (pc := 61) dX4_shelf_61  ?_
        refine g_topi (nI_1 ns) ?_
        refine g_put h hw (pc := 62) (ws' := mw cI a v (su (su (su Z 3 0 ns x) 4 0 ns y) 14 0 1 (nI (ns + 1))) d.1 (nI d.2.1.length) (nI d.2.2.1.length)) (ty := .int) dX4_shelf_62 iX4_shelf_4 tyX4 tyX4_ok nmX4 0 rfl rfl 5 (by decide) fX4_shelf_23 rfl (by decide +kernel) rfl rfl (Nat.le_of_ble_eq_true rfl) rfl ?_
        refine g_aload_n h (pc := 65) dX4_shelf_65 0 rfl ?_
        refine g_get h (pc := 66) dX4_shelf_66 iX4_shelf_4 0 rfl rfl 5 (by decide) fX4_shelf_23 rfl ?_
        refine g_topi (y := nI (ns + 1)) (su_0 _ 14 0 1 _) ?_
        refine g_iconst h (pc := 69) (v := 1) dX4_shelf_69 (by decide) ?_
        refine g_isub h (pc := 70) dX4_shelf_70  ?_
        refine g_topi (nI_pred ns) ?_
        exact hret _ v dX4_shelf_71 rfl ⟨rfl, hRM⟩ rfl (Nat.zero_le _) (Nat.zero_le _)

theorem iX4_kind_4 : ∀ w ∈ wsX40, w ∈ wsX4_kind := by decide +kernel
theorem fX4_kind_89 : Cond.fieldLink RX4 89 "SpareShelvesModel" "kinds" "I" ∈ wsX4_kind := by decide +kernel
theorem fX4_kind_13 : Cond.fieldLink RX4 13 "SpareShelvesModel" "price" "[I" ∈ wsX4_kind := by decide +kernel
theorem fX4_kind_17 : Cond.fieldLink RX4 17 "SpareShelvesModel" "buys" "[I" ∈ wsX4_kind := by decide +kernel
theorem fX4_kind_20 : Cond.fieldLink RX4 20 "SpareShelvesModel" "core" "[I" ∈ wsX4_kind := by decide +kernel
theorem fX4_kind_35 : Cond.fieldLink RX4 35 "SpareShelvesModel" "mends" "[I" ∈ wsX4_kind := by decide +kernel
set_option maxHeartbeats 4000000 in
set_option maxRecDepth 100000 in
theorem m_kind (l : Launch) (D : va_G) (cI cO : ClassId) (a : Nat → Nat) (v : MX) (Z : Sg) (d : Dy) (hRM : RM d v) (ns nk : Nat) (hz : Zv ns nk Z) (x y c : Int32) : CIm l yX4_kind wsX4_kind 2 50 D cI cO a v Z d [.int x, .int y, .int c] (kindP nk Z d x y c).1 (kindP nk Z d x y c).2.1 (kindP nk Z d x y c).2.2 := by
  unfold CIm
  refine CI.of (cc := cX4_kind) (maxL := 4) (rt := .int) (by decide) rfl (Nat.le_of_ble_eq_true rfl) ?_
  intro C hgL hgD hw h hret
  have hn8 := hz.n8
  have hk8 := hz.k8
  refine g_iload_n h (pc := 0) dX4_kind_0 1 rfl ?_
  refine g_iconst h (pc := 1) (v := 1) dX4_kind_1 (by decide) ?_
  refine g_sipush h (pc := 2) (v := 1000) dX4_kind_2 (by decide) ?_
  refine g_scallR h (pc := 5) (As := [.int x, .int (1), .int (1000)]) (st := []) dX4_kind_5 (m_in (gL C) (gD C) cI cO x (1) (1000)) [] rfl (by decide) gX4_kind_X4_in rfl (show nPar yX4_in RX4 3 = true by decide +kernel) ⟨Nat.le_of_ble_eq_true rfl, Nat.le_of_ble_eq_true rfl⟩ rfl (Nat.le_of_ble_eq_true rfl) ⟨Nat.zero_le _, Nat.zero_le _⟩ (fun r hr => ?_)
  subst hr
  cases ho : outB x 1 1000 with
  | true =>
    refine g_topi (y := 0) rfl ?_
    refine g_if_eq_t h (pc := 8) (tgt := 21) dX4_kind_8 (by decide) rfl ?_
    refine g_bipush h (pc := 21) (v := (-2)) dX4_kind_21 (by decide) ?_
    have e1 : (kindP nk Z d x y c) = (-2, Z, d) := by unfold kindP; rw [if_pos (by rw [ho]; rfl)]
    rw [e1] at hret
    exact hret _ v dX4_kind_23 rfl ⟨rfl, hRM⟩ rfl (Nat.zero_le _) (Nat.zero_le _)
  | false =>
    refine g_topi (y := 1) rfl ?_
    refine g_if_eq_f h (pc := 8) (tgt := 21) dX4_kind_8 (by decide) (by decide) ?_
    refine g_iload_n h (pc := 11) dX4_kind_11 2 rfl ?_
    refine g_iconst h (pc := 12) (v := 1) dX4_kind_12 (by decide) ?_
    refine g_bipush h (pc := 13) (v := 50) dX4_kind_13 (by decide) ?_
    refine g_scallR h (pc := 15) (As := [.int y, .int (1), .int (50)]) (st := []) dX4_kind_15 (m_in (gL C) (gD C) cI cO y (1) (50)) [] rfl (by decide) gX4_kind_X4_in rfl (show nPar yX4_in RX4 3 = true by decide +kernel) ⟨Nat.le_of_ble_eq_true rfl, Nat.le_of_ble_eq_true rfl⟩ rfl (Nat.le_of_ble_eq_true rfl) ⟨Nat.zero_le _, Nat.zero_le _⟩ (fun r hr => ?_)
    subst hr
    cases ho2 : outB y 1 50 with
    | true =>
      refine g_topi (y := 0) rfl ?_
      refine g_if_ne_f h (pc := 18) (tgt := 24) dX4_kind_18 (by decide) rfl ?_
      refine g_bipush h (pc := 21) (v := (-2)) dX4_kind_21 (by decide) ?_
      have e1 : (kindP nk Z d x y c) = (-2, Z, d) := by unfold kindP; rw [if_pos (by rw [ho, ho2]; rfl)]
      rw [e1] at hret
      exact hret _ v dX4_kind_23 rfl ⟨rfl, hRM⟩ rfl (Nat.zero_le _) (Nat.zero_le _)
    | false =>
      refine g_topi (y := 1) rfl ?_
      refine g_if_ne_t h (pc := 18) (tgt := 24) dX4_kind_18 (by decide) (by decide) ?_
      refine g_iload_n h (pc := 24) dX4_kind_24 3 rfl ?_
      refine g_iconst h (pc := 25) (v := (-1)) dX4_kind_25 (by decide) ?_
      have hA : ¬ (outB x 1 1000 || outB y 1 50) = true := by rw [ho, ho2]; decide
      have tl : (!decide (c = -1) && !isIn c nk) = false → GG C 4 (mwd cI a v Z d) 0 0 39 [(0, .ref (a 0)), (1, .int x), (2, .int y), (3, .int c)] [] := by
        intro hB
        refine g_aload_n h (pc := 39) dX4_kind_39 0 rfl ?_
        refine g_get h (pc := 40) dX4_kind_40 iX4_kind_4 0 rfl rfl 1 (by decide) fX4_kind_89 rfl ?_
        refine g_topi hz.nk ?_
        refine g_bipush h (pc := 43) (v := 8) dX4_kind_43 (by decide) ?_
        by_cases h8 : 8 ≤ nk
        · refine g_icmp_ne_f h (pc := 45) (tgt := 51) dX4_kind_45 (by decide) (show nI nk = nI 8 by rw [show nk = 8 by omega]) ?_
          refine g_bipush h (pc := 48) (v := (-4)) dX4_kind_48 (by decide) ?_
          have e1 : (kindP nk Z d x y c) = (-4, Z, d) := by unfold kindP; rw [if_neg hA, if_neg (by rw [hB]; decide), if_pos h8]
          rw [e1] at hret
          exact hret _ v dX4_kind_50 rfl ⟨rfl, hRM⟩ rfl (Nat.zero_le _) (Nat.zero_le _)
        · refine g_icmp_ne_t h (pc := 45) (tgt := 51) dX4_kind_45 (by decide) (fun q => h8 (Nat.le_of_eq ((nI_eq (a := nk) (b := 8) (by omega) (by omega)).mp q).symm)) ?_
          have e1 : (kindP nk Z d x y c) = (nI nk, (su (su (su (su (su Z 0 0 nk x) 1 0 nk y) 2 0 nk c) 6 0 nk 10) 14 0 0 (nI (nk + 1))), d) := by unfold kindP; rw [if_neg hA, if_neg (by rw [hB]; decide), if_neg h8, su_comm (su (su (su Z 0 0 nk x) 1 0 nk y) 2 0 nk c) (show 14 ≠ 6 by decide)]
          rw [e1] at hret
          refine g_aload_n h (pc := 51) dX4_kind_51 0 rfl ?_
          refine g_get h (pc := 52) dX4_kind_52 iX4_kind_4 0 rfl rfl 2 (by decide) fX4_kind_13 rfl ?_
          refine g_aload_n h (pc := 55) dX4_kind_55 0 rfl ?_
          refine g_get h (pc := 56) dX4_kind_56 iX4_kind_4 0 rfl rfl 1 (by decide) fX4_kind_89 rfl ?_
          refine g_topi (y := nI nk) hz.nk ?_
          refine g_iload_n h (pc := 59) dX4_kind_59 1 rfl ?_
          refine g_iast h hw (pc := 60) (ws' := mw cI a v (su Z 0 0 nk x) d.1 (nI d.2.1.length) (nI d.2.2.1.length)) dX4_kind_60 1 rfl (vp_in_nI (by omega) (by omega)) (by rw [nI_clamp (by omega)]; rfl) ?_
          refine g_aload_n h (pc := 61) dX4_kind_61 0 rfl ?_
          refine g_get h (pc := 62) dX4_kind_62 iX4_kind_4 0 rfl rfl 3 (by decide) fX4_kind_17 rfl ?_
          refine g_aload_n h (pc := 65) dX4_kind_65 0 rfl ?_
          refine g_get h (pc := 66) dX4_kind_66 iX4_kind_4 0 rfl rfl 1 (by decide) fX4_kind_89 rfl ?_
          refine g_topi (y := nI nk) hz.nk ?_
          refine g_iload_n h (pc := 69) dX4_kind_69 2 rfl ?_
          refine g_iast h hw (pc := 70) (ws' := mw cI a v (su (su Z 0 0 nk x) 1 0 nk y) d.1 (nI d.2.1.length) (nI d.2.2.1.length)) dX4_kind_70 2 rfl (vp_in_nI (by omega) (by omega)) (by rw [nI_clamp (by omega)]; rfl) ?_
          refine g_aload_n h (pc := 71) dX4_kind_71 0 rfl ?_
          refine g_get h (pc := 72) dX4_kind_72 iX4_kind_4 0 rfl rfl 4 (by decide) fX4_kind_20 rfl ?_
          refine g_aload_n h (pc := 75) dX4_kind_75 0 rfl ?_
          refine g_get h (pc := 76) dX4_kind_76 iX4_kind_4 0 rfl rfl 1 (by decide) fX4_kind_89 rfl ?_
          refine g_topi (y := nI nk) hz.nk ?_
          refine g_iload_n h (pc := 79) dX4_kind_79 3 rfl ?_
          refine g_iast h hw (pc := 80) (ws' := mw cI a v (su (su (su Z 0 0 nk x) 1 0 nk y) 2 0 nk c) d.1 (nI d.2.1.length) (nI d.2.2.1.length)) dX4_kind_80 3 rfl (vp_in_nI (by omega) (by omega)) (by rw [nI_clamp (by omega)]; rfl) ?_
          refine g_aload_n h (pc := 81) dX4_kind_81 0 rfl ?_
          refine g_get h (pc := 82) dX4_kind_82 iX4_kind_4 0 rfl rfl 9 (by decide) fX4_kind_35 rfl ?_
          refine g_aload_n h (pc := 85) dX4_kind_85 0 rfl ?_
          refine g_get h (pc := 86) dX4_kind_86 iX4_kind_4 0 rfl rfl 1 (by decide) fX4_kind_89 rfl ?_
          refine g_topi (y := nI (8 * 0 + nk)) (by rw [Nat.mul_zero, Nat.zero_add]; exact hz.nk) ?_
          refine g_bipush h (pc := 89) (v := 10) dX4_kind_89 (by decide) ?_
          refine g_iast h hw (pc := 91) (ws' := mw cI a v (su (su (su (su Z 0 0 nk x) 1 0 nk y) 2 0 nk c) 6 0 nk 10) d.1 (nI d.2.1.length) (nI d.2.2.1.length)) dX4_kind_91 7 rfl (vp_in_nI (by omega) (by omega)) (by rw [nI_clamp (by omega)]; exact mw_ms cI a v (su (su (su Z 0 0 nk x) 1 0 nk y) 2 0 nk c) d.1 (nI d.2.1.length) (nI d.2.2.1.length) 0 (by omega) _) ?_
          refine g_aload_n h (pc := 92) dX4_kind_92 0 rfl ?_
          refine g_dup h (pc := 93) dX4_kind_93 rfl ?_
          refine g_get h (pc := 94) dX4_kind_94 iX4_kind_4 0 rfl rfl 1 (by decide) fX4_kind_89 rfl ?_
          refine g_topi (y := nI nk) hz.nk ?_
          refine g_iconst h (pc := 97) (v := 1) dX4_kind_97 (by decide) ?_
          refine g_iadd h (pc := 98) dX4_kind_98  ?_
          refine g_topi (nI_1 nk) ?_
          refine g_put h hw (pc := 99) (ws' := mw cI a v (su (su (su (su (su Z 0 0 nk x) 1 0 nk y) 2 0 nk c) 6 0 nk 10) 14 0 0 (nI (nk + 1))) d.1 (nI d.2.1.length) (nI d.2.2.1.length)) (ty := .int) dX4_kind_99 iX4_kind_4 tyX4 tyX4_ok nmX4 0 rfl rfl 1 (by decide) fX4_kind_89 rfl (by decide +kernel) rfl rfl (Nat.le_of_ble_eq_true rfl) rfl ?_
          refine g_aload_n h (pc := 102) dX4_kind_102 0 rfl ?_
          refine g_get h (pc := 103) dX4_kind_103 iX4_kind_4 0 rfl rfl 1 (by decide) fX4_kind_89 rfl ?_
          refine g_topi (y := nI (nk + 1)) (su_0 _ 14 0 0 _) ?_
          refine g_iconst h (pc := 106) (v := 1) dX4_kind_106 (by decide) ?_
          refine g_isub h (pc := 107) dX4_kind_107  ?_
          refine g_topi (nI_pred nk) ?_
          exact hret _ v dX4_kind_108 rfl ⟨rfl, hRM⟩ rfl (Nat.zero_le _) (Nat.zero_le _)
      by_cases hc : c = -1
      · refine g_icmp_eq_t h (pc := 26) (tgt := 39) dX4_kind_26 (by decide) hc ?_
        exact tl (by rw [decide_eq_true hc]; rfl)
      · refine g_icmp_eq_f h (pc := 26) (tgt := 39) dX4_kind_26 (by decide) hc ?_
        refine g_aload_n h (pc := 29) dX4_kind_29 0 rfl ?_
        refine g_iload_n h (pc := 30) dX4_kind_30 3 rfl ?_
        refine g_callR h (pc := 31) (As := [.int c]) (st := []) dX4_kind_31 (m_isK (gL C) (gD C) cI cO a v Z d hRM ns nk hz c) [0, 1, 2, 3, 4, 5, 6, 7, 8, 9, 10, 11, 12, 13, 14, 15, 16, 17, 18, 19, 20, 21, 22, 23, 24] rfl (by decide) gX4_kind_X4_isKind rfl (q0 := 0) rfl rfl (show nPar yX4_isKind RX4 1 = true by decide +kernel) ⟨Nat.le_of_ble_eq_true rfl, Nat.le_of_ble_eq_true rfl⟩ rfl (Nat.le_of_ble_eq_true rfl) ⟨Nat.zero_le _, Nat.zero_le _⟩ (fun r hr => ?_)
        subst hr
        cases hi : isIn c nk with
        | true =>
          refine g_topi (y := 1) rfl ?_
          refine g_if_ne_t h (pc := 34) (tgt := 39) dX4_kind_34 (by decide) (by decide) ?_
          exact tl (by rw [hi]; simp)
        | false =>
          refine g_topi (y := 0) rfl ?_
          refine g_if_ne_f h (pc := 34) (tgt := 39) dX4_kind_34 (by decide) rfl ?_
          refine g_iconst h (pc := 37) (v := (-1)) dX4_kind_37 (by decide) ?_
          have e1 : (kindP nk Z d x y c) = (-1, Z, d) := by unfold kindP; rw [if_neg hA, if_pos (by rw [hi, decide_eq_false hc]; rfl)]
          rw [e1] at hret
          exact hret _ v dX4_kind_38 rfl ⟨rfl, hRM⟩ rfl (Nat.zero_le _) (Nat.zero_le _)

theorem iX4_stock_4 : ∀ w ∈ wsX40, w ∈ wsX4_stock := by decide +kernel
theorem fX4_stock_44 : Cond.fieldLink RX4 44 "SpareShelvesModel" "bought" "[I" ∈ wsX4_stock := by decide +kernel
theorem fX4_stock_38 : Cond.fieldLink RX4 38 "SpareShelvesModel" "good" "[I" ∈ wsX4_stock := by decide +kernel
set_option maxHeartbeats 4000000 in
set_option maxRecDepth 100000 in
theorem m_stock (l : Launch) (D : va_G) (cI cO : ClassId) (a : Nat → Nat) (v : MX) (Z : Sg) (d : Dy) (hRM : RM d v) (ns nk : Nat) (hz : Zv ns nk Z) (t : Nat) (hzx : Zx ns nk t Z) (hd : Dv ns nk Z (t + 1) d) (hph : Ph d ≤ 2500) (B : Nat) (hB : B < 900000000) (hG : Gd B d) (x y m : Int32) : CIm l yX4_stock wsX4_stock 6 160 D cI cO a v Z d [.int x, .int y, .int m] (stockP ns nk Z d x y m).1 (stockP ns nk Z d x y m).2.1 (stockP ns nk Z d x y m).2.2 := by
  unfold CIm
  refine CI.of (cc := cX4_stock) (maxL := 5) (rt := .int) (by decide) rfl (Nat.le_of_ble_eq_true rfl) ?_
  intro C hgL hgD hw h hret
  have hn8 := hz.n8
  have hk8 := hz.k8
  refine g_aload_n h (pc := 0) dX4_stock_0 0 rfl ?_
  refine g_iload_n h (pc := 1) dX4_stock_1 1 rfl ?_
  refine g_callR h (pc := 2) (As := [.int x]) (st := []) dX4_stock_2 (m_isS (gL C) (gD C) cI cO a v Z d hRM ns nk hz x) [0, 1, 2, 3, 4, 5, 6, 7, 8, 9, 10, 11, 12, 13, 14, 15, 16, 17, 18, 19, 20, 21, 22, 23, 24] rfl (by decide) gX4_stock_X4_isShelf rfl (q0 := 0) rfl rfl (show nPar yX4_isShelf RX4 1 = true by decide +kernel) ⟨Nat.le_of_ble_eq_true rfl, Nat.le_of_ble_eq_true rfl⟩ rfl (Nat.le_of_ble_eq_true rfl) ⟨Nat.zero_le _, Nat.zero_le _⟩ (fun r hr => ?_)
  subst hr
  cases hp1 : isIn x ns with
  | false =>
    refine g_topi (y := 0) rfl ?_
    refine g_if_eq_t h (pc := 5) (tgt := 16) dX4_stock_5 (by decide) rfl ?_
    have hp : (isIn x ns && isIn y nk) = false := by rw [hp1]; rfl
    refine g_iconst h (pc := 16) (v := (-1)) dX4_stock_16 (by decide) ?_
    have e1 : (stockP ns nk Z d x y m) = (-1, Z, d) := by unfold stockP; rw [if_pos hp]
    rw [e1] at hret
    exact hret _ v dX4_stock_17 rfl ⟨rfl, hRM⟩ rfl (Nat.zero_le _) (Nat.zero_le _)
  | true =>
    refine g_topi (y := 1) rfl ?_
    refine g_if_eq_f h (pc := 5) (tgt := 16) dX4_stock_5 (by decide) (by decide) ?_
    refine g_aload_n h (pc := 8) dX4_stock_8 0 rfl ?_
    refine g_iload_n h (pc := 9) dX4_stock_9 2 rfl ?_
    refine g_callR h (pc := 10) (As := [.int y]) (st := []) dX4_stock_10 (m_isK (gL C) (gD C) cI cO a v Z d hRM ns nk hz y) [0, 1, 2, 3, 4, 5, 6, 7, 8, 9, 10, 11, 12, 13, 14, 15, 16, 17, 18, 19, 20, 21, 22, 23, 24] rfl (by decide) gX4_stock_X4_isKind rfl (q0 := 0) rfl rfl (show nPar yX4_isKind RX4 1 = true by decide +kernel) ⟨Nat.le_of_ble_eq_true rfl, Nat.le_of_ble_eq_true rfl⟩ rfl (Nat.le_of_ble_eq_true rfl) ⟨Nat.zero_le _, Nat.zero_le _⟩ (fun r hr => ?_)
    subst hr
    cases hp2 : isIn y nk with
    | false =>
      refine g_topi (y := 0) rfl ?_
      refine g_if_ne_f h (pc := 13) (tgt := 18) dX4_stock_13 (by decide) rfl ?_
      have hp : (isIn x ns && isIn y nk) = false := by rw [hp1, hp2]; rfl
      refine g_iconst h (pc := 16) (v := (-1)) dX4_stock_16 (by decide) ?_
      have e1 : (stockP ns nk Z d x y m) = (-1, Z, d) := by unfold stockP; rw [if_pos hp]
      rw [e1] at hret
      exact hret _ v dX4_stock_17 rfl ⟨rfl, hRM⟩ rfl (Nat.zero_le _) (Nat.zero_le _)
    | true =>
      refine g_topi (y := 1) rfl ?_
      refine g_if_ne_t h (pc := 13) (tgt := 18) dX4_stock_13 (by decide) (by decide) ?_
      have hp : (isIn x ns && isIn y nk) = true := by rw [hp1, hp2]; rfl
      obtain ⟨s, hs, rfl⟩ := isIn_of (by omega) hp1
      obtain ⟨k, hk, rfl⟩ := isIn_of (by omega) hp2
      have ts : tN (nI s) = s := nI_clamp (by omega)
      have tk : tN (nI k) = k := nI_clamp (by omega)
      refine g_iload_n h (pc := 18) dX4_stock_18 3 rfl ?_
      refine g_iconst h (pc := 19) (v := 1) dX4_stock_19 (by decide) ?_
      refine g_bipush h (pc := 20) (v := 9) dX4_stock_20 (by decide) ?_
      refine g_scallR h (pc := 22) (As := [.int m, .int (1), .int (9)]) (st := []) dX4_stock_22 (m_in (gL C) (gD C) cI cO m (1) (9)) [] rfl (by decide) gX4_stock_X4_in rfl (show nPar yX4_in RX4 3 = true by decide +kernel) ⟨Nat.le_of_ble_eq_true rfl, Nat.le_of_ble_eq_true rfl⟩ rfl (Nat.le_of_ble_eq_true rfl) ⟨Nat.zero_le _, Nat.zero_le _⟩ (fun r hr => ?_)
      subst hr
      cases ho : outB m 1 9 with
      | true =>
        refine g_topi (y := 0) rfl ?_
        refine g_if_ne_f h (pc := 25) (tgt := 31) dX4_stock_25 (by decide) rfl ?_
        refine g_bipush h (pc := 28) (v := (-2)) dX4_stock_28 (by decide) ?_
        have e1 : (stockP ns nk Z d (nI s) (nI k) m) = (-2, Z, d) := by unfold stockP; rw [hp, if_neg (by decide), if_pos ho]
        rw [e1] at hret
        exact hret _ v dX4_stock_30 rfl ⟨rfl, hRM⟩ rfl (Nat.zero_le _) (Nat.zero_le _)
      | false =>
        refine g_topi (y := 1) rfl ?_
        refine g_if_ne_t h (pc := 25) (tgt := 31) dX4_stock_25 (by decide) (by decide) ?_
        refine g_aload_n h (pc := 31) dX4_stock_31 0 rfl ?_
        refine g_get h (pc := 32) dX4_stock_32 iX4_stock_4 0 rfl rfl 13 (by decide) fX4_stock_44 rfl ?_
        refine g_iload_n h (pc := 35) dX4_stock_35 2 rfl ?_
        refine g_iald h (pc := 36) (v := d.1 9 0 k) dX4_stock_36 10 rfl (vp_in_nI (by omega) (by omega)) (by rw [nI_clamp (by omega)]) ?_
        refine g_iload_n h (pc := 37) dX4_stock_37 3 rfl ?_
        refine g_iadd h (pc := 38) dX4_stock_38  ?_
        refine g_sipush h (pc := 39) (v := 200) dX4_stock_39 (by decide) ?_
        by_cases hfu : 200 < d.1 9 0 k + m
        · refine g_icmp_le_f h (pc := 42) (tgt := 48) dX4_stock_42 (by decide) (Int32.not_le.mpr hfu) ?_
          refine g_bipush h (pc := 45) (v := (-4)) dX4_stock_45 (by decide) ?_
          have e1 : (stockP ns nk Z d (nI s) (nI k) m) = (-4, Z, d) := by unfold stockP; rw [hp, if_neg (by decide), if_neg (by rw [ho]; decide), tk, if_pos hfu]
          rw [e1] at hret
          exact hret _ v dX4_stock_47 rfl ⟨rfl, hRM⟩ rfl (Nat.zero_le _) (Nat.zero_le _)
        · refine g_icmp_le_t h (pc := 42) (tgt := 48) dX4_stock_42 (by decide) (Int32.not_lt.mp hfu) ?_
          obtain ⟨j, hj1, hj2, rfl⟩ := outB_in (a := 1) (b := 9) ho rfl rfl (by omega) (by omega)
          have tj : tN (nI j) = j := nI_clamp (by omega)
          have e1 : (stockP ns nk Z d (nI s) (nI k) (nI j)) = ((landsN Z s k j d).1 7 s k, Z, (landsN Z s k j d)) := by unfold stockP; rw [hp, if_neg (by decide), if_neg (by rw [ho]; decide), tk, ts, tj, if_neg hfu]
          rw [e1] at hret
          refine g_iconst h (pc := 48) (v := 0) dX4_stock_48 (by decide) ?_
          refine g_istore h (pc := 49) dX4_stock_49 (by decide) rfl ?_
          suffices loop : ∀ (n i : Nat) (d1 : Dy) (v1 : MX), i + n = j → landsN Z s k n d1 = (landsN Z s k j d) → RM d1 v1 → Dv ns nk Z (t + 1) d1 → Ph d1 ≤ 2500 → Gd (B + i) d1 → GG C 5 (mwd cI a v1 Z d1) 0 0 51 [(0, .ref (a 0)), (1, .int (nI s)), (2, .int (nI k)), (3, .int (nI j)), (4, .int (nI i))] [] from loop j 0 d v (by omega) rfl hRM hd hph hG
          intro n
          induction n with
          | zero =>
            intro i d1 v1 h1 hm hR1 hd1 hp1 hG1
            refine g_iload h (pc := 51) dX4_stock_51 4 rfl ?_
            refine g_iload_n h (pc := 53) dX4_stock_53 3 rfl ?_
            refine g_icmp_ge_t h (pc := 54) (tgt := 79) dX4_stock_54 (by decide) (nI_le (by omega) (by omega)) ?_
            rw [landsN] at hm
            rw [← hm] at hret
            refine g_aload_n h (pc := 79) dX4_stock_79 0 rfl ?_
            refine g_get h (pc := 80) dX4_stock_80 iX4_stock_4 0 rfl rfl 10 (by decide) fX4_stock_38 rfl ?_
            refine g_bipush h (pc := 83) (v := 8) dX4_stock_83 (by decide) ?_
            refine g_iload_n h (pc := 85) dX4_stock_85 1 rfl ?_
            refine g_imul h (pc := 86) dX4_stock_86  ?_
            refine g_iload_n h (pc := 87) dX4_stock_87 2 rfl ?_
            refine g_iadd h (pc := 88) dX4_stock_88  ?_
            refine g_topi (nI_83 s k) ?_
            refine g_iald h (pc := 89) (v := d1.1 7 s k) dX4_stock_89 8 rfl (vp_in_nI (by omega) (by omega)) (by rw [nI_clamp (by omega)]; exact fl2_at _ (by omega)) ?_
            exact hret _ v1 dX4_stock_90 rfl ⟨rfl, hR1⟩ rfl (Nat.zero_le _) (Nat.zero_le _)
          | succ n ih =>
            intro i d1 v1 h1 hm hR1 hd1 hp1 hG1
            rw [landsN] at hm
            obtain ⟨k1, k2, -⟩ := lands_ok hzx (inc d1 9 k) s k hs hk (Nat.le_refl _) hd1
            have e6 : sz (inc d1 9 k) = sz d1 := rfl
            have e7 : Ph (inc d1 9 k) = Ph d1 := rfl
            have e10 := Ph_sz d1
            refine g_iload h (pc := 51) dX4_stock_51 4 rfl ?_
            refine g_iload_n h (pc := 53) dX4_stock_53 3 rfl ?_
            refine g_icmp_ge_f h (pc := 54) (tgt := 79) dX4_stock_54 (by decide) (nI_ge (by omega) (by omega)) ?_
            refine g_aload_n h (pc := 57) dX4_stock_57 0 rfl ?_
            refine g_get h (pc := 58) dX4_stock_58 iX4_stock_4 0 rfl rfl 13 (by decide) fX4_stock_44 rfl ?_
            refine g_iload_n h (pc := 61) dX4_stock_61 2 rfl ?_
            refine g_dup2 h (pc := 62) dX4_stock_62 rfl rfl ?_
            refine g_iald h (pc := 63) (v := d1.1 9 0 k) dX4_stock_63 10 rfl (vp_in_nI (by omega) (by omega)) (by rw [nI_clamp (by omega)]) ?_
            refine g_iconst h (pc := 64) (v := 1) dX4_stock_64 (by decide) ?_
            refine g_iadd h (pc := 65) dX4_stock_65  ?_
            refine g_iast h hw (pc := 66) (ws' := mw cI a v1 Z (inc d1 9 k).1 (nI d1.2.1.length) (nI d1.2.2.1.length)) dX4_stock_66 10 rfl (vp_in_nI (by omega) (by omega)) (by rw [nI_clamp (by omega)]; rfl) ?_
            refine g_aload_n h (pc := 67) dX4_stock_67 0 rfl ?_
            refine g_iload_n h (pc := 68) dX4_stock_68 1 rfl ?_
            refine g_iload_n h (pc := 69) dX4_stock_69 2 rfl ?_
            refine g_eq (ws' := mwd cI a v1 Z (inc d1 9 k)) rfl ?_
            refine g_callV h (pc := 70) (As := [.int (nI s), .int (nI k)]) (st := []) dX4_stock_70 (m_lands (gL C) (gD C) cI cO a v1 Z (inc d1 9 k) hR1 ns nk hz (by omega) (B + i) (by omega) hG1 hd1.1 s k hs hk) hw gX4_stock_X4_lands rfl (q0 := 0) rfl rfl (show nPar yX4_lands RX4 2 = true by decide +kernel) ⟨Nat.le_of_ble_eq_true rfl, Nat.le_of_ble_eq_true rfl⟩ rfl (Nat.le_of_ble_eq_true rfl) ⟨Nat.zero_le _, Nat.zero_le _⟩ (fun v2 hR2 => ?_)
            refine g_iinc h (pc := 73) dX4_stock_73 4 rfl (nI_1 i) (by decide) rfl ?_
            refine g_goto h (pc := 76) (tgt := 51) dX4_stock_76 (by decide) ?_
            exact ih (i + 1) _ v2 (by omega) hm hR2 k2 (by omega) (gd_lands hz (d := (inc d1 9 k)) hG1 hs hk)

theorem iX4_fails_4 : ∀ w ∈ wsX40, w ∈ wsX4_fails := by decide +kernel
theorem fX4_fails_110 : Cond.fieldLink RX4 110 "SpareShelvesModel" "asks" "I" ∈ wsX4_fails := by decide +kernel
theorem fX4_fails_113 : Cond.fieldLink RX4 113 "SpareShelvesModel" "dues" "I" ∈ wsX4_fails := by decide +kernel
theorem fX4_fails_56 : Cond.fieldLink RX4 56 "SpareShelvesModel" "broke" "[I" ∈ wsX4_fails := by decide +kernel
theorem fX4_fails_47 : Cond.fieldLink RX4 47 "SpareShelvesModel" "scrapped" "[I" ∈ wsX4_fails := by decide +kernel
theorem fX4_fails_44 : Cond.fieldLink RX4 44 "SpareShelvesModel" "bought" "[I" ∈ wsX4_fails := by decide +kernel
theorem fX4_fails_17 : Cond.fieldLink RX4 17 "SpareShelvesModel" "buys" "[I" ∈ wsX4_fails := by decide +kernel
theorem fX4_fails_20 : Cond.fieldLink RX4 20 "SpareShelvesModel" "core" "[I" ∈ wsX4_fails := by decide +kernel
set_option maxHeartbeats 4000000 in
set_option maxRecDepth 100000 in
theorem m_fails (l : Launch) (D : va_G) (cI cO : ClassId) (a : Nat → Nat) (v : MX) (Z : Sg) (d : Dy) (hRM : RM d v) (ns nk : Nat) (hz : Zv ns nk Z) (t : Nat) (hzx : Zx ns nk t Z) (hph : Ph d ≤ 2500) (B : Nat) (hB : B < 900000000) (hG : Gd B d) (x y how : Int32) : CIm l yX4_fails wsX4_fails 8 210 D cI cO a v Z d [.int x, .int y, .int how] (failsP ns nk Z d x y how).1 (failsP ns nk Z d x y how).2.1 (failsP ns nk Z d x y how).2.2 := by
  unfold CIm
  refine CI.of (cc := cX4_fails) (maxL := 5) (rt := .int) (by decide) rfl (Nat.le_of_ble_eq_true rfl) ?_
  intro C hgL hgD hw h hret
  have hn8 := hz.n8
  have hk8 := hz.k8
  refine g_aload_n h (pc := 0) dX4_fails_0 0 rfl ?_
  refine g_iload_n h (pc := 1) dX4_fails_1 1 rfl ?_
  refine g_callR h (pc := 2) (As := [.int x]) (st := []) dX4_fails_2 (m_isS (gL C) (gD C) cI cO a v Z d hRM ns nk hz x) [0, 1, 2, 3, 4, 5, 6, 7, 8, 9, 10, 11, 12, 13, 14, 15, 16, 17, 18, 19, 20, 21, 22, 23, 24] rfl (by decide) gX4_fails_X4_isShelf rfl (q0 := 0) rfl rfl (show nPar yX4_isShelf RX4 1 = true by decide +kernel) ⟨Nat.le_of_ble_eq_true rfl, Nat.le_of_ble_eq_true rfl⟩ rfl (Nat.le_of_ble_eq_true rfl) ⟨Nat.zero_le _, Nat.zero_le _⟩ (fun r hr => ?_)
  subst hr
  cases hp1 : isIn x ns with
  | false =>
    refine g_topi (y := 0) rfl ?_
    refine g_if_eq_t h (pc := 5) (tgt := 16) dX4_fails_5 (by decide) rfl ?_
    have hp : (isIn x ns && isIn y nk) = false := by rw [hp1]; rfl
    refine g_iconst h (pc := 16) (v := (-1)) dX4_fails_16 (by decide) ?_
    have e1 : (failsP ns nk Z d x y how) = (-1, Z, d) := by unfold failsP; rw [if_pos hp]
    rw [e1] at hret
    exact hret _ v dX4_fails_17 rfl ⟨rfl, hRM⟩ rfl (Nat.zero_le _) (Nat.zero_le _)
  | true =>
    refine g_topi (y := 1) rfl ?_
    refine g_if_eq_f h (pc := 5) (tgt := 16) dX4_fails_5 (by decide) (by decide) ?_
    refine g_aload_n h (pc := 8) dX4_fails_8 0 rfl ?_
    refine g_iload_n h (pc := 9) dX4_fails_9 2 rfl ?_
    refine g_callR h (pc := 10) (As := [.int y]) (st := []) dX4_fails_10 (m_isK (gL C) (gD C) cI cO a v Z d hRM ns nk hz y) [0, 1, 2, 3, 4, 5, 6, 7, 8, 9, 10, 11, 12, 13, 14, 15, 16, 17, 18, 19, 20, 21, 22, 23, 24] rfl (by decide) gX4_fails_X4_isKind rfl (q0 := 0) rfl rfl (show nPar yX4_isKind RX4 1 = true by decide +kernel) ⟨Nat.le_of_ble_eq_true rfl, Nat.le_of_ble_eq_true rfl⟩ rfl (Nat.le_of_ble_eq_true rfl) ⟨Nat.zero_le _, Nat.zero_le _⟩ (fun r hr => ?_)
    subst hr
    cases hp2 : isIn y nk with
    | false =>
      refine g_topi (y := 0) rfl ?_
      refine g_if_ne_f h (pc := 13) (tgt := 18) dX4_fails_13 (by decide) rfl ?_
      have hp : (isIn x ns && isIn y nk) = false := by rw [hp1, hp2]; rfl
      refine g_iconst h (pc := 16) (v := (-1)) dX4_fails_16 (by decide) ?_
      have e1 : (failsP ns nk Z d x y how) = (-1, Z, d) := by unfold failsP; rw [if_pos hp]
      rw [e1] at hret
      exact hret _ v dX4_fails_17 rfl ⟨rfl, hRM⟩ rfl (Nat.zero_le _) (Nat.zero_le _)
    | true =>
      refine g_topi (y := 1) rfl ?_
      refine g_if_ne_t h (pc := 13) (tgt := 18) dX4_fails_13 (by decide) (by decide) ?_
      have hp : (isIn x ns && isIn y nk) = true := by rw [hp1, hp2]; rfl
      obtain ⟨s, hs, rfl⟩ := isIn_of (by omega) hp1
      obtain ⟨k, hk, rfl⟩ := isIn_of (by omega) hp2
      have ts : tN (nI s) = s := nI_clamp (by omega)
      have tk : tN (nI k) = k := nI_clamp (by omega)
      refine g_iload_n h (pc := 18) dX4_fails_18 3 rfl ?_
      refine g_iconst h (pc := 19) (v := 0) dX4_fails_19 (by decide) ?_
      refine g_iconst h (pc := 20) (v := 2) dX4_fails_20 (by decide) ?_
      refine g_scallR h (pc := 21) (As := [.int how, .int (0), .int (2)]) (st := []) dX4_fails_21 (m_in (gL C) (gD C) cI cO how (0) (2)) [] rfl (by decide) gX4_fails_X4_in rfl (show nPar yX4_in RX4 3 = true by decide +kernel) ⟨Nat.le_of_ble_eq_true rfl, Nat.le_of_ble_eq_true rfl⟩ rfl (Nat.le_of_ble_eq_true rfl) ⟨Nat.zero_le _, Nat.zero_le _⟩ (fun r hr => ?_)
      subst hr
      cases ho : outB how 0 2 with
      | true =>
        refine g_topi (y := 0) rfl ?_
        refine g_if_ne_f h (pc := 24) (tgt := 30) dX4_fails_24 (by decide) rfl ?_
        refine g_bipush h (pc := 27) (v := (-2)) dX4_fails_27 (by decide) ?_
        have e1 : (failsP ns nk Z d (nI s) (nI k) how) = (-2, Z, d) := by unfold failsP; rw [hp, if_neg (by decide), if_pos ho]
        rw [e1] at hret
        exact hret _ v dX4_fails_29 rfl ⟨rfl, hRM⟩ rfl (Nat.zero_le _) (Nat.zero_le _)
      | false =>
        refine g_topi (y := 1) rfl ?_
        refine g_if_ne_t h (pc := 24) (tgt := 30) dX4_fails_24 (by decide) (by decide) ?_
        refine g_iload_n h (pc := 30) dX4_fails_30 3 rfl ?_
        refine g_iconst h (pc := 31) (v := 1) dX4_fails_31 (by decide) ?_
        have hsz : sz d ≤ 2500 := Nat.le_trans (Ph_sz d) hph
        have hla : d.2.1.length ≤ sz d := Nat.le_add_right _ _
        have hlu : d.2.2.1.length ≤ sz d := Nat.le_add_left _ _
        have tl : ¬ (how = 1 ∧ Z 2 0 k = -1) → GG C 5 (mwd cI a v Z d) 0 0 48 [(0, .ref (a 0)), (1, .int (nI s)), (2, .int (nI k)), (3, .int how)] [] := by
          intro hns
          refine g_aload_n h (pc := 48) dX4_fails_48 0 rfl ?_
          refine g_get h (pc := 49) dX4_fails_49 iX4_fails_4 0 rfl rfl 18 (by decide) fX4_fails_110 rfl ?_
          refine g_bipush h (pc := 52) (v := 100) dX4_fails_52 (by decide) ?_
          by_cases hf1 : 100 < d.2.1.length
          · refine g_icmp_gt_t h (pc := 54) (tgt := 66) dX4_fails_54 (by decide) (nI_lt (a := 100) hf1 (by omega)) ?_
            refine g_bipush h (pc := 66) (v := (-4)) dX4_fails_66 (by decide) ?_
            have e1 : (failsP ns nk Z d (nI s) (nI k) how) = (-4, Z, d) := by unfold failsP; rw [hp, if_neg (by decide), if_neg (by rw [ho]; decide), tk, if_neg hns, if_pos (Or.inl hf1)]
            rw [e1] at hret
            exact hret _ v dX4_fails_68 rfl ⟨rfl, hRM⟩ rfl (Nat.zero_le _) (Nat.zero_le _)
          · refine g_icmp_gt_f h (pc := 54) (tgt := 66) dX4_fails_54 (by decide) (nI_nlt (a := 100) (by omega) (by omega)) ?_
            refine g_aload_n h (pc := 57) dX4_fails_57 0 rfl ?_
            refine g_get h (pc := 58) dX4_fails_58 iX4_fails_4 0 rfl rfl 24 (by decide) fX4_fails_113 rfl ?_
            refine g_bipush h (pc := 61) (v := 100) dX4_fails_61 (by decide) ?_
            by_cases hf2 : 100 < d.2.2.1.length
            · refine g_icmp_le_f h (pc := 63) (tgt := 69) dX4_fails_63 (by decide) (nI_ge (a := 100) hf2 (by omega)) ?_
              refine g_bipush h (pc := 66) (v := (-4)) dX4_fails_66 (by decide) ?_
              have e1 : (failsP ns nk Z d (nI s) (nI k) how) = (-4, Z, d) := by unfold failsP; rw [hp, if_neg (by decide), if_neg (by rw [ho]; decide), tk, if_neg hns, if_pos (Or.inr hf2)]
              rw [e1] at hret
              exact hret _ v dX4_fails_68 rfl ⟨rfl, hRM⟩ rfl (Nat.zero_le _) (Nat.zero_le _)
            · refine g_icmp_le_t h (pc := 63) (tgt := 69) dX4_fails_63 (by decide) (nI_le (b := 100) (by omega) (by omega)) ?_
              have e1 : (failsP ns nk Z d (nI s) (nI k) how) = (if d.1 7 s k = 0 then 0 else 1, Z, (breaks Z d s k how)) := by unfold failsP; rw [hp, if_neg (by decide), if_neg (by rw [ho]; decide), tk, ts, if_neg hns, if_neg (fun q => q.elim hf1 hf2)]
              rw [e1] at hret
              have z0 : sz (inc d 13 k) = sz d := rfl
              have z1 := sz_machine Z (inc d 13 k) s k
              have hGm : Gd B (machine Z (inc d 13 k) s k) := by
                unfold machine
                split
                · exact hG
                · rename_i q
                  exact Gd.dec (d := (inc d 13 k)) hG (by omega) (by omega) q
              refine g_aload_n h (pc := 69) dX4_fails_69 0 rfl ?_
              refine g_get h (pc := 70) dX4_fails_70 iX4_fails_4 0 rfl rfl 17 (by decide) fX4_fails_56 rfl ?_
              refine g_iload_n h (pc := 73) dX4_fails_73 2 rfl ?_
              refine g_dup2 h (pc := 74) dX4_fails_74 rfl rfl ?_
              refine g_iald h (pc := 75) (v := d.1 13 0 k) dX4_fails_75 14 rfl (vp_in_nI (by omega) (by omega)) (by rw [nI_clamp (by omega)]) ?_
              refine g_iconst h (pc := 76) (v := 1) dX4_fails_76 (by decide) ?_
              refine g_iadd h (pc := 77) dX4_fails_77  ?_
              refine g_iast h hw (pc := 78) (ws' := mw cI a v Z (inc d 13 k).1 (nI d.2.1.length) (nI d.2.2.1.length)) dX4_fails_78 14 rfl (vp_in_nI (by omega) (by omega)) (by rw [nI_clamp (by omega)]; rfl) ?_
              refine g_aload_n h (pc := 79) dX4_fails_79 0 rfl ?_
              refine g_iload_n h (pc := 80) dX4_fails_80 1 rfl ?_
              refine g_iload_n h (pc := 81) dX4_fails_81 2 rfl ?_
              refine g_iconst h (pc := 82) (v := 0) dX4_fails_82 (by decide) ?_
              refine g_iconst h (pc := 83) (v := (-1)) dX4_fails_83 (by decide) ?_
              refine g_eq (ws' := mwd cI a v Z (inc d 13 k)) rfl ?_
              refine g_callI h (pc := 84) (As := [.int (nI s), .int (nI k), .int 0, .int (-1)]) (st := []) dX4_fails_84 (m_asks0 (gL C) (gD C) cI cO a v Z (inc d 13 k) hRM ns nk hz (by omega) B (by omega) hG s k hs hk) hw gX4_fails_X4_asks rfl (q0 := 0) rfl rfl (show nPar yX4_asks RX4 4 = true by decide +kernel) ⟨Nat.le_of_ble_eq_true rfl, Nat.le_of_ble_eq_true rfl⟩ rfl (Nat.le_of_ble_eq_true rfl) ⟨Nat.zero_le _, Nat.zero_le _⟩ (fun r v2 hR2 => ?_)
              obtain ⟨rfl, hR2⟩ := hR2
              refine g_topi (y := if d.1 7 s k = 0 then 0 else 1) rfl ?_
              refine g_istore h (pc := 87) dX4_fails_87 (by decide) rfl ?_
              refine g_iload_n h (pc := 89) dX4_fails_89 3 rfl ?_
              refine g_iconst h (pc := 90) (v := 2) dX4_fails_90 (by decide) ?_
              have ed : ∀ (v5 : MX), RM (breaks Z d s k how) v5 → GG C 5 (mwd cI a v5 Z (breaks Z d s k how)) 0 0 157 [(0, .ref (a 0)), (1, .int (nI s)), (2, .int (nI k)), (3, .int how), (4, .int (if d.1 7 s k = 0 then 0 else 1))] [] := by
                intro v5 hR5
                refine g_iload h (pc := 157) dX4_fails_157 4 rfl ?_
                by_cases hg0 : d.1 7 s k = 0
                · rw [if_pos hg0] at hret ⊢
                  refine g_if_eq_t h (pc := 159) (tgt := 166) dX4_fails_159 (by decide) rfl ?_
                  refine g_iconst h (pc := 166) (v := 0) dX4_fails_166 (by decide) ?_
                  exact hret _ v5 dX4_fails_167 rfl ⟨rfl, hR5⟩ rfl (Nat.zero_le _) (Nat.zero_le _)
                · rw [if_neg hg0] at hret ⊢
                  refine g_if_eq_f h (pc := 159) (tgt := 166) dX4_fails_159 (by decide) (by decide) ?_
                  refine g_iconst h (pc := 162) (v := 1) dX4_fails_162 (by decide) ?_
                  refine g_goto h (pc := 163) (tgt := 167) dX4_fails_163 (by decide) ?_
                  exact hret _ v5 dX4_fails_167 rfl ⟨rfl, hR5⟩ rfl (Nat.zero_le _) (Nat.zero_le _)
              by_cases h2 : how = 2
              · have e2 : (breaks Z d s k how) = (due Z (inc (ups Z k 0 8 s (inc (machine Z (inc d 13 k) s k) 10 k)) 9 k) 2 0 k 0 (Z 1 0 k)) := if_pos h2
                rw [e2] at ed
                have q5 : sz (inc (machine Z (inc d 13 k) s k) 10 k) = sz (machine Z (inc d 13 k) s k) := rfl
                have q6 := sz_ups Z k 0 8 s (inc (machine Z (inc d 13 k) s k) 10 k)
                have q7 : sz (inc (ups Z k 0 8 s (inc (machine Z (inc d 13 k) s k) 10 k)) 9 k) = sz (ups Z k 0 8 s (inc (machine Z (inc d 13 k) s k) 10 k)) := rfl
                refine g_icmp_ne_f h (pc := 91) (tgt := 138) dX4_fails_91 (by decide) h2 ?_
                refine g_aload_n h (pc := 94) dX4_fails_94 0 rfl ?_
                refine g_get h (pc := 95) dX4_fails_95 iX4_fails_4 0 rfl rfl 14 (by decide) fX4_fails_47 rfl ?_
                refine g_iload_n h (pc := 98) dX4_fails_98 2 rfl ?_
                refine g_dup2 h (pc := 99) dX4_fails_99 rfl rfl ?_
                refine g_iald h (pc := 100) (v := (machine Z (inc d 13 k) s k).1 10 0 k) dX4_fails_100 11 rfl (vp_in_nI (by omega) (by omega)) (by rw [nI_clamp (by omega)]) ?_
                refine g_iconst h (pc := 101) (v := 1) dX4_fails_101 (by decide) ?_
                refine g_iadd h (pc := 102) dX4_fails_102  ?_
                refine g_iast h hw (pc := 103) (ws' := mw cI a v2 Z (inc (machine Z (inc d 13 k) s k) 10 k).1 (nI (machine Z (inc d 13 k) s k).2.1.length) (nI (machine Z (inc d 13 k) s k).2.2.1.length)) dX4_fails_103 11 rfl (vp_in_nI (by omega) (by omega)) (by rw [nI_clamp (by omega)]; rfl) ?_
                refine g_aload_n h (pc := 104) dX4_fails_104 0 rfl ?_
                refine g_iload_n h (pc := 105) dX4_fails_105 1 rfl ?_
                refine g_iload_n h (pc := 106) dX4_fails_106 2 rfl ?_
                refine g_iconst h (pc := 107) (v := 0) dX4_fails_107 (by decide) ?_
                refine g_eq (ws' := mwd cI a v2 Z (inc (machine Z (inc d 13 k) s k) 10 k)) rfl ?_
                refine g_callV h (pc := 108) (As := [.int (nI s), .int (nI k), .int (nI 0)]) (st := []) dX4_fails_108 (m_ups (gL C) (gD C) cI cO a v2 Z (inc (machine Z (inc d 13 k) s k) 10 k) hR2 ns nk hz (by omega) B (by omega) hGm s k 0 hs hk (rch_0 hz 8 s hs (by omega))) hw gX4_fails_X4_asksUp rfl (q0 := 0) rfl rfl (show nPar yX4_asksUp RX4 3 = true by decide +kernel) ⟨Nat.le_of_ble_eq_true rfl, Nat.le_of_ble_eq_true rfl⟩ rfl (Nat.le_of_ble_eq_true rfl) ⟨Nat.zero_le _, Nat.zero_le _⟩ (fun v3 hR3 => ?_)
                refine g_aload_n h (pc := 111) dX4_fails_111 0 rfl ?_
                refine g_get h (pc := 112) dX4_fails_112 iX4_fails_4 0 rfl rfl 13 (by decide) fX4_fails_44 rfl ?_
                refine g_iload_n h (pc := 115) dX4_fails_115 2 rfl ?_
                refine g_dup2 h (pc := 116) dX4_fails_116 rfl rfl ?_
                refine g_iald h (pc := 117) (v := (ups Z k 0 8 s (inc (machine Z (inc d 13 k) s k) 10 k)).1 9 0 k) dX4_fails_117 10 rfl (vp_in_nI (by omega) (by omega)) (by rw [nI_clamp (by omega)]) ?_
                refine g_iconst h (pc := 118) (v := 1) dX4_fails_118 (by decide) ?_
                refine g_iadd h (pc := 119) dX4_fails_119  ?_
                refine g_iast h hw (pc := 120) (ws' := mw cI a v3 Z (inc (ups Z k 0 8 s (inc (machine Z (inc d 13 k) s k) 10 k)) 9 k).1 (nI (ups Z k 0 8 s (inc (machine Z (inc d 13 k) s k) 10 k)).2.1.length) (nI (ups Z k 0 8 s (inc (machine Z (inc d 13 k) s k) 10 k)).2.2.1.length)) dX4_fails_120 10 rfl (vp_in_nI (by omega) (by omega)) (by rw [nI_clamp (by omega)]; rfl) ?_
                refine g_aload_n h (pc := 121) dX4_fails_121 0 rfl ?_
                refine g_iconst h (pc := 122) (v := 2) dX4_fails_122 (by decide) ?_
                refine g_iconst h (pc := 123) (v := 0) dX4_fails_123 (by decide) ?_
                refine g_iload_n h (pc := 124) dX4_fails_124 2 rfl ?_
                refine g_iconst h (pc := 125) (v := 0) dX4_fails_125 (by decide) ?_
                refine g_aload_n h (pc := 126) dX4_fails_126 0 rfl ?_
                refine g_get h (pc := 127) dX4_fails_127 iX4_fails_4 0 rfl rfl 3 (by decide) fX4_fails_17 rfl ?_
                refine g_iload_n h (pc := 130) dX4_fails_130 2 rfl ?_
                refine g_iald h (pc := 131) (v := Z 1 0 k) dX4_fails_131 2 rfl (vp_in_nI (by omega) (by omega)) (by rw [nI_clamp (by omega)]) ?_
                refine g_eq (ws' := mwd cI a v3 Z (inc (ups Z k 0 8 s (inc (machine Z (inc d 13 k) s k) 10 k)) 9 k)) rfl ?_
                refine g_callV h (pc := 132) (As := [.int 2, .int (nI 0), .int (nI k), .int 0, .int (Z 1 0 k)]) (st := []) dX4_fails_132 (m_due (gL C) (gD C) cI cO a v3 Z (inc (ups Z k 0 8 s (inc (machine Z (inc d 13 k) s k) 10 k)) 9 k) hR3 ns nk hz (by have h9 : (inc (ups Z k 0 8 s (inc (machine Z (inc d 13 k) s k) 10 k)) 9 k).2.2.1.length ≤ sz (inc (ups Z k 0 8 s (inc (machine Z (inc d 13 k) s k) 10 k)) 9 k) := Nat.le_add_left _ _; omega) 2 0 (Z 1 0 k) 0 k) hw gX4_fails_X4_due rfl (q0 := 0) rfl rfl (show nPar yX4_due RX4 5 = true by decide +kernel) ⟨Nat.le_of_ble_eq_true rfl, Nat.le_of_ble_eq_true rfl⟩ rfl (Nat.le_of_ble_eq_true rfl) ⟨Nat.zero_le _, Nat.zero_le _⟩ (fun v4 hR4 => ?_)
                refine g_goto h (pc := 135) (tgt := 157) dX4_fails_135 (by decide) ?_
                exact ed v4 hR4
              · have e2 : (breaks Z d s k how) = (ups Z k (mOf Z k s) 8 s (back Z (machine Z (inc d 13 k) s k) s k how)) := if_neg h2
                rw [e2] at ed
                have q5 := sz_back Z (machine Z (inc d 13 k) s k) s k how
                have hh : how = 0 ∨ (how = 1 ∧ ∃ c, c < nk ∧ Z 2 0 k = nI c) := by
                  obtain ⟨j, j1, j2, rfl⟩ := outB_in (a := 0) (b := 2) ho rfl rfl (by omega) (by omega)
                  rcases (show j = 0 ∨ j = 1 ∨ j = 2 by omega) with rfl | rfl | rfl
                  · exact Or.inl rfl
                  · exact Or.inr ⟨rfl, (hzx.core hk).resolve_left (fun q => hns ⟨rfl, q⟩)⟩
                  · exact absurd rfl h2
                have hGb := gd_back hz hGm hs hk hh
                refine g_icmp_ne_t h (pc := 91) (tgt := 138) dX4_fails_91 (by decide) h2 ?_
                refine g_aload_n h (pc := 138) dX4_fails_138 0 rfl ?_
                refine g_iload_n h (pc := 139) dX4_fails_139 1 rfl ?_
                refine g_iload_n h (pc := 140) dX4_fails_140 2 rfl ?_
                refine g_iload_n h (pc := 141) dX4_fails_141 3 rfl ?_
                have tb : ∀ (v3 : MX), RM (back Z (machine Z (inc d 13 k) s k) s k how) v3 → GG C 5 (mwd cI a v3 Z (back Z (machine Z (inc d 13 k) s k) s k how)) 0 0 145 [(0, .ref (a 0)), (1, .int (nI s)), (2, .int (nI k)), (3, .int how), (4, .int (if d.1 7 s k = 0 then 0 else 1))] [] := by
                  intro v3 hR3
                  refine g_aload_n h (pc := 145) dX4_fails_145 0 rfl ?_
                  refine g_iload_n h (pc := 146) dX4_fails_146 1 rfl ?_
                  refine g_iload_n h (pc := 147) dX4_fails_147 2 rfl ?_
                  refine g_aload_n h (pc := 148) dX4_fails_148 0 rfl ?_
                  refine g_iload_n h (pc := 149) dX4_fails_149 1 rfl ?_
                  refine g_iload_n h (pc := 150) dX4_fails_150 2 rfl ?_
                  refine g_callR h (pc := 151) (As := [.int (nI s), .int (nI k)]) (st := [.int (nI k), .int (nI s), .ref (a 0)]) dX4_fails_151 (m_mender (gL C) (gD C) cI cO a v3 Z (back Z (machine Z (inc d 13 k) s k) s k how) hR3 ns nk hz s k hs hk) [0, 1, 2, 3, 4, 5, 6, 7, 8, 9, 10, 11, 12, 13, 14, 15, 16, 17, 18, 19, 20, 21, 22, 23, 24] rfl (by decide) gX4_fails_X4_menderOf rfl (q0 := 0) rfl rfl (show nPar yX4_menderOf RX4 2 = true by decide +kernel) ⟨Nat.le_of_ble_eq_true rfl, Nat.le_of_ble_eq_true rfl⟩ rfl (Nat.le_of_ble_eq_true rfl) ⟨Nat.zero_le _, Nat.zero_le _⟩ (fun r9 hr9 => ?_)
                  subst hr9
                  refine g_callV h (pc := 154) (As := [.int (nI s), .int (nI k), .int (nI (mOf Z k s))]) (st := []) dX4_fails_154 (m_ups (gL C) (gD C) cI cO a v3 Z (back Z (machine Z (inc d 13 k) s k) s k how) hR3 ns nk hz (by omega) B (by omega) hGb s k (mOf Z k s) hs hk (rch_mo hz hk 8 s hs)) hw gX4_fails_X4_asksUp rfl (q0 := 0) rfl rfl (show nPar yX4_asksUp RX4 3 = true by decide +kernel) ⟨Nat.le_of_ble_eq_true rfl, Nat.le_of_ble_eq_true rfl⟩ rfl (Nat.le_of_ble_eq_true rfl) ⟨Nat.zero_le _, Nat.zero_le _⟩ (fun v4 hR4 => ?_)
                  exact ed v4 hR4
                rcases hh with h4 | ⟨h4, c, hc, ec⟩
                · subst h4
                  refine g_callV h (pc := 142) (As := [.int (nI s), .int (nI k), .int 0]) (st := []) dX4_fails_142 (m_back0 (gL C) (gD C) cI cO a v2 Z (machine Z (inc d 13 k) s k) hR2 ns nk hz (by omega) s k hs hk) hw gX4_fails_X4_goesBack rfl (q0 := 0) rfl rfl (show nPar yX4_goesBack RX4 3 = true by decide +kernel) ⟨Nat.le_of_ble_eq_true rfl, Nat.le_of_ble_eq_true rfl⟩ rfl (Nat.le_of_ble_eq_true rfl) ⟨Nat.zero_le _, Nat.zero_le _⟩ (fun v3 hR3 => ?_)
                  rw [back_0] at tb
                  exact tb v3 hR3
                · subst h4
                  refine g_callV h (pc := 142) (As := [.int (nI s), .int (nI k), .int 1]) (st := []) dX4_fails_142 (m_back1 (gL C) (gD C) cI cO a v2 Z (machine Z (inc d 13 k) s k) hR2 ns nk hz (by omega) (by omega) B (by omega) hGm s k c hs hk hc ec) hw gX4_fails_X4_goesBack rfl (q0 := 0) rfl rfl (show nPar yX4_goesBack RX4 3 = true by decide +kernel) ⟨Nat.le_of_ble_eq_true rfl, Nat.le_of_ble_eq_true rfl⟩ rfl (Nat.le_of_ble_eq_true rfl) ⟨Nat.zero_le _, Nat.zero_le _⟩ (fun v3 hR3 => ?_)
                  exact tb v3 hR3
        by_cases hh1 : how = 1
        · refine g_icmp_ne_f h (pc := 32) (tgt := 48) dX4_fails_32 (by decide) hh1 ?_
          refine g_aload_n h (pc := 35) dX4_fails_35 0 rfl ?_
          refine g_get h (pc := 36) dX4_fails_36 iX4_fails_4 0 rfl rfl 4 (by decide) fX4_fails_20 rfl ?_
          refine g_iload_n h (pc := 39) dX4_fails_39 2 rfl ?_
          refine g_iald h (pc := 40) (v := Z 2 0 k) dX4_fails_40 3 rfl (vp_in_nI (by omega) (by omega)) (by rw [nI_clamp (by omega)]) ?_
          refine g_iconst h (pc := 41) (v := (-1)) dX4_fails_41 (by decide) ?_
          by_cases hc1 : Z 2 0 k = -1
          · refine g_icmp_ne_f h (pc := 42) (tgt := 48) dX4_fails_42 (by decide) hc1 ?_
            refine g_bipush h (pc := 45) (v := (-3)) dX4_fails_45 (by decide) ?_
            have e1 : (failsP ns nk Z d (nI s) (nI k) how) = (-3, Z, d) := by unfold failsP; rw [hp, if_neg (by decide), if_neg (by rw [ho]; decide), tk, if_pos ⟨hh1, hc1⟩]
            rw [e1] at hret
            exact hret _ v dX4_fails_47 rfl ⟨rfl, hRM⟩ rfl (Nat.zero_le _) (Nat.zero_le _)
          · refine g_icmp_ne_t h (pc := 42) (tgt := 48) dX4_fails_42 (by decide) hc1 ?_
            exact tl (fun q => hc1 q.2)
        · refine g_icmp_ne_t h (pc := 32) (tgt := 48) dX4_fails_32 (by decide) hh1 ?_
          exact tl (fun q => hh1 q.1)
