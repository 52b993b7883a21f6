def outB (v lo hi : Int32) : Bool := decide (v < lo ∨ hi < v)

set_option maxHeartbeats 4000000 in
set_option maxRecDepth 100000 in
theorem c_out (l : Launch) (D : va_G) (cI cO : ClassId) (v lo hi : Int32) : CR l yX3_isOutside wsX3_isOutside 0 0 D cI cO [.int v, .int lo, .int hi] [] (fun r => r = if outB v lo hi then 1 else 0) := by
  refine CR.of (cc := cX3_isOutside) (maxL := 3) (rt := .boolean) (by decide) rfl (Nat.le_of_ble_eq_true rfl) ?_
  intro C hgL hgD h hret
  refine g_iload_n h (pc := 0) dX3_isOutside_0 0 rfl ?_
  refine g_iload_n h (pc := 1) dX3_isOutside_1 1 rfl ?_
  refine g_icmp_lt h (pc := 2) (tgt := 10) dX3_isOutside_2 (by decide) (fun c1 => ?_) (fun c1 => ?_)
  · refine g_iconst h (pc := 10) (v := 1) dX3_isOutside_10 (by decide) ?_
    refine g_goto h (pc := 11) (tgt := 15) dX3_isOutside_11 (by decide) ?_
    exact hret _ dX3_isOutside_15 (by decide) (by rw [show outB v lo hi = true from decide_eq_true (Or.inl c1)]; rfl)
  · refine g_iload_n h (pc := 5) dX3_isOutside_5 0 rfl ?_
    refine g_iload_n h (pc := 6) dX3_isOutside_6 2 rfl ?_
    refine g_icmp_le h (pc := 7) (tgt := 14) dX3_isOutside_7 (by decide) (fun c2 => ?_) (fun c2 => ?_)
    · refine g_iconst h (pc := 14) (v := 0) dX3_isOutside_14 (by decide) ?_
      exact hret _ dX3_isOutside_15 (by decide) (by rw [show outB v lo hi = false from decide_eq_false (fun q => q.elim c1 (fun q => absurd c2 (Int32.not_le.mpr q)))]; rfl)
    · refine g_iconst h (pc := 10) (v := 1) dX3_isOutside_10 (by decide) ?_
      refine g_goto h (pc := 11) (tgt := 15) dX3_isOutside_11 (by decide) ?_
      exact hret _ dX3_isOutside_15 (by decide) (by rw [show outB v lo hi = true from decide_eq_true (Or.inr (Int32.not_le.mp c2))]; rfl)

theorem iX3_isNoPlace_3 : ∀ w ∈ wsX30, w ∈ wsX3_isNoPlace := by decide +kernel
theorem fX3_isNoPlace_19 : Cond.fieldLink RX3 19 "SpareShelves" "tree" "LSpareShelves$Tree;" ∈ wsX3_isNoPlace := by decide +kernel
theorem fX3_isNoPlace_10 : Cond.fieldLink RX3 10 "SpareShelves" "kinds" "LSpareShelves$Kinds;" ∈ wsX3_isNoPlace := by decide +kernel
set_option maxHeartbeats 4000000 in
set_option maxRecDepth 100000 in
theorem c_noplace (l : Launch) (D : va_G) (cI cO : ClassId) (a : Nat → Nat) (u : UX) (Z : Sg) (d : Dy) (hRC : RC d u) (ns nk : Nat) (hz : Zv ns nk Z) (s k : Int32) : CRc l yX3_isNoPlace wsX3_isNoPlace 1 21 D cI cO a u Z d [.int s, .int k] (if isIn s ns && isIn k nk then 0 else 1) := by
  unfold CRc
  refine CR.of (cc := cX3_isNoPlace) (maxL := 3) (rt := .boolean) (by decide) rfl (Nat.le_of_ble_eq_true rfl) ?_
  intro C hgL hgD h hret
  refine g_aload_n h (pc := 0) dX3_isNoPlace_0 0 rfl ?_
  refine g_get h (pc := 1) dX3_isNoPlace_1 iX3_isNoPlace_3 0 rfl rfl 1 (by decide) fX3_isNoPlace_19 rfl ?_
  refine g_iload_n h (pc := 4) dX3_isNoPlace_4 1 rfl ?_
  refine g_callR h (pc := 5) (As := [.int s]) (st := []) dX3_isNoPlace_5 (c_thas (gL C) (gD C) cI cO (fun i => a (10 + i)) Z ns hz.n8 hz.ns s) [10, 11, 12, 13, 14, 15, 16, 17, 18, 19, 20, 21] rfl (by decide) gX3_isNoPlace_X2_has rfl (q0 := 0) rfl rfl (show nPar yX2_has RX2 1 = true by decide +kernel) ⟨Nat.le_of_ble_eq_true rfl, Nat.le_of_ble_eq_true rfl⟩ rfl (Nat.le_of_ble_eq_true rfl) ⟨Nat.zero_le _, Nat.zero_le _⟩ (fun r hr => ?_)
  subst hr
  cases hs : isIn s ns with
  | false =>
    rw [hs] at hret
    refine g_topi (y := 0) rfl ?_
    refine g_if_eq_t h (pc := 8) (tgt := 22) dX3_isNoPlace_8 (by decide) rfl ?_
    refine g_iconst h (pc := 22) (v := 1) dX3_isNoPlace_22 (by decide) ?_
    refine g_goto h (pc := 23) (tgt := 27) dX3_isNoPlace_23 (by decide) ?_
    exact hret _ dX3_isNoPlace_27 (by decide) rfl
  | true =>
    rw [hs] at hret
    refine g_topi (y := 1) rfl ?_
    refine g_if_eq_f h (pc := 8) (tgt := 22) dX3_isNoPlace_8 (by decide) (by decide) ?_
    refine g_aload_n h (pc := 11) dX3_isNoPlace_11 0 rfl ?_
    refine g_get h (pc := 12) dX3_isNoPlace_12 iX3_isNoPlace_3 0 rfl rfl 0 (by decide) fX3_isNoPlace_10 rfl ?_
    refine g_iload_n h (pc := 15) dX3_isNoPlace_15 2 rfl ?_
    refine g_callR h (pc := 16) (As := [.int k]) (st := []) dX3_isNoPlace_16 (c_khas (gL C) (gD C) cI cO (fun i => a (1 + i)) Z d.1 nk hz.k8 hz.nk k) [1, 2, 3, 4, 5, 6, 7, 8, 9] rfl (by decide) gX3_isNoPlace_X0_has rfl (q0 := 0) rfl rfl (show nPar yX0_has RX0 1 = true by decide +kernel) ⟨Nat.le_of_ble_eq_true rfl, Nat.le_of_ble_eq_true rfl⟩ rfl (Nat.le_of_ble_eq_true rfl) ⟨Nat.zero_le _, Nat.zero_le _⟩ (fun r hr => ?_)
    subst hr
    cases hk : isIn k nk with
    | false =>
      rw [hk] at hret
      refine g_topi (y := 0) rfl ?_
      refine g_if_ne_f h (pc := 19) (tgt := 26) dX3_isNoPlace_19 (by decide) rfl ?_
      refine g_iconst h (pc := 22) (v := 1) dX3_isNoPlace_22 (by decide) ?_
      refine g_goto h (pc := 23) (tgt := 27) dX3_isNoPlace_23 (by decide) ?_
      exact hret _ dX3_isNoPlace_27 (by decide) rfl
    | true =>
      rw [hk] at hret
      refine g_topi (y := 1) rfl ?_
      refine g_if_ne_t h (pc := 19) (tgt := 26) dX3_isNoPlace_19 (by decide) (by decide) ?_
      refine g_iconst h (pc := 26) (v := 0) dX3_isNoPlace_26 (by decide) ?_
      exact hret _ dX3_isNoPlace_27 (by decide) rfl

theorem iX3_mendsThatWait_3 : ∀ w ∈ wsX30, w ∈ wsX3_mendsThatWait := by decide +kernel
theorem fX3_mendsThatWait_41 : Cond.fieldLink RX3 41 "SpareShelves" "asks" "LSpareShelves$Line;" ∈ wsX3_mendsThatWait := by decide +kernel
set_option maxHeartbeats 4000000 in
set_option maxRecDepth 100000 in
theorem c_mwait (l : Launch) (D : va_G) (cI cO : ClassId) (a : Nat → Nat) (u : UX) (Z : Sg) (d : Dy) (hRC : RC d u) (ns nk : Nat) (hz : Zv ns nk Z) (s k : Int32) : CRc l yX3_mendsThatWait wsX3_mendsThatWait 2 52 D cI cO a u Z d [.int s, .int k] (nI (d.2.1.countP (fitB s (-1) 2 k))) := by
  unfold CRc
  refine CR.of (cc := cX3_mendsThatWait) (maxL := 3) (rt := .int) (by decide) rfl (Nat.le_of_ble_eq_true rfl) ?_
  intro C hgL hgD h hret
  refine g_aload_n h (pc := 0) dX3_mendsThatWait_0 0 rfl ?_
  refine g_get h (pc := 1) dX3_mendsThatWait_1 iX3_mendsThatWait_3 0 rfl rfl 6 (by decide) fX3_mendsThatWait_41 rfl ?_
  refine g_iload_n h (pc := 4) dX3_mendsThatWait_4 1 rfl ?_
  refine g_iconst h (pc := 5) (v := (-1)) dX3_mendsThatWait_5 (by decide) ?_
  refine g_iconst h (pc := 6) (v := 2) dX3_mendsThatWait_6 (by decide) ?_
  refine g_iload_n h (pc := 7) dX3_mendsThatWait_7 2 rfl ?_
  refine g_callR h (pc := 8) (As := [.int s, .int (-1), .int 2, .int k]) (st := []) dX3_mendsThatWait_8 (c_tally (gL C) (gD C) cI cO (lb (a 42) u.1) d.2.2.2.1 u.2.2.2.1 d.2.1 hRC.1 s (-1) 2 k) [42, 43] rfl (by decide) gX3_mendsThatWait_X1_tally rfl (q0 := 0) rfl rfl (show nPar yX1_tally RX1 4 = true by decide +kernel) ⟨Nat.le_of_ble_eq_true rfl, Nat.le_of_ble_eq_true rfl⟩ rfl (Nat.le_of_ble_eq_true rfl) ⟨Nat.zero_le _, Nat.zero_le _⟩ (fun r hr => ?_)
  subst hr
  exact hret _ dX3_mendsThatWait_11 rfl rfl

theorem iX3_takesGood_3 : ∀ w ∈ wsX30, w ∈ wsX3_takesGood := by decide +kernel
theorem fX3_takesGood_25 : Cond.fieldLink RX3 25 "SpareShelves" "good" "[[I" ∈ wsX3_takesGood := by decide +kernel
set_option maxHeartbeats 4000000 in
set_option maxRecDepth 100000 in
theorem c_take0 (l : Launch) (D : va_G) (cI cO : ClassId) (a : Nat → Nat) (u : UX) (Z : Sg) (d : Dy) (hRC : RC d u) (ns nk : Nat) (hz : Zv ns nk Z) (s k : Nat) (hs : s < ns) (hk : k < nk) (hg : d.1 7 s k = 0) : CIc l yX3_takesGood wsX3_takesGood 0 0 D cI cO a u Z d [.int (nI s), .int (nI k)] 0 Z d := by
  unfold CIc
  refine CI.of (cc := cX3_takesGood) (maxL := 3) (rt := .boolean) (by decide) rfl (Nat.le_of_ble_eq_true rfl) ?_
  intro C hgL hgD hw h hret
  have hn8 := hz.n8
  have hk8 := hz.k8
  refine g_aload_n h (pc := 0) dX3_takesGood_0 0 rfl ?_
  refine g_get h (pc := 1) dX3_takesGood_1 iX3_takesGood_3 0 rfl rfl 2 (by decide) fX3_takesGood_25 rfl ?_
  refine g_iload_n h (pc := 4) dX3_takesGood_4 1 rfl ?_
  refine g_aald h (pc := 5) (v := a (23 + s)) dX3_takesGood_5 22 rfl (vp_in_nI (by omega) (by omega)) (by rw [nI_clamp (by omega)]) ?_
  refine g_iload_n h (pc := 6) dX3_takesGood_6 2 rfl ?_
  refine g_iald h (pc := 7) (v := d.1 7 s k) dX3_takesGood_7 (23 + s) (cw_g cI cO a u Z d (by omega)) (vp_in_nI (by omega) (by omega)) (by rw [nI_clamp (by omega)]) ?_
  refine g_if_ne_f h (pc := 8) (tgt := 13) dX3_takesGood_8 (by decide) hg ?_
  refine g_iconst h (pc := 11) (v := 0) dX3_takesGood_11 (by decide) ?_
  exact hret _ u dX3_takesGood_12 (by decide) ⟨rfl, hRC⟩ rfl (Nat.zero_le _) (Nat.zero_le _)

set_option maxHeartbeats 4000000 in
set_option maxRecDepth 100000 in
theorem c_take1 (l : Launch) (D : va_G) (cI cO : ClassId) (a : Nat → Nat) (u : UX) (Z : Sg) (d : Dy) (hRC : RC d u) (ns nk : Nat) (hz : Zv ns nk Z) (s k : Nat) (hs : s < ns) (hk : k < nk) (hg : ¬ d.1 7 s k = 0) : CIc l yX3_takesGood wsX3_takesGood 0 0 D cI cO a u Z d [.int (nI s), .int (nI k)] 1 Z (dG d 7 s k (d.1 7 s k - 1)) := by
  unfold CIc
  refine CI.of (cc := cX3_takesGood) (maxL := 3) (rt := .boolean) (by decide) rfl (Nat.le_of_ble_eq_true rfl) ?_
  intro C hgL hgD hw h hret
  have hn8 := hz.n8
  have hk8 := hz.k8
  refine g_aload_n h (pc := 0) dX3_takesGood_0 0 rfl ?_
  refine g_get h (pc := 1) dX3_takesGood_1 iX3_takesGood_3 0 rfl rfl 2 (by decide) fX3_takesGood_25 rfl ?_
  refine g_iload_n h (pc := 4) dX3_takesGood_4 1 rfl ?_
  refine g_aald h (pc := 5) (v := a (23 + s)) dX3_takesGood_5 22 rfl (vp_in_nI (by omega) (by omega)) (by rw [nI_clamp (by omega)]) ?_
  refine g_iload_n h (pc := 6) dX3_takesGood_6 2 rfl ?_
  refine g_iald h (pc := 7) (v := d.1 7 s k) dX3_takesGood_7 (23 + s) (cw_g cI cO a u Z d (by omega)) (vp_in_nI (by omega) (by omega)) (by rw [nI_clamp (by omega)]) ?_
  refine g_if_ne_t h (pc := 8) (tgt := 13) dX3_takesGood_8 (by decide) hg ?_
  refine g_aload_n h (pc := 13) dX3_takesGood_13 0 rfl ?_
  refine g_get h (pc := 14) dX3_takesGood_14 iX3_takesGood_3 0 rfl rfl 2 (by decide) fX3_takesGood_25 rfl ?_
  refine g_iload_n h (pc := 17) dX3_takesGood_17 1 rfl ?_
  refine g_aald h (pc := 18) (v := a (23 + s)) dX3_takesGood_18 22 rfl (vp_in_nI (by omega) (by omega)) (by rw [nI_clamp (by omega)]) ?_
  refine g_iload_n h (pc := 19) dX3_takesGood_19 2 rfl ?_
  refine g_dup2 h (pc := 20) dX3_takesGood_20 rfl rfl ?_
  refine g_iald h (pc := 21) (v := d.1 7 s k) dX3_takesGood_21 (23 + s) (cw_g cI cO a u Z d (by omega)) (vp_in_nI (by omega) (by omega)) (by rw [nI_clamp (by omega)]) ?_
  refine g_iconst h (pc := 22) (v := 1) dX3_takesGood_22 (by decide) ?_
  refine g_isub h (pc := 23) dX3_takesGood_23  ?_
  refine g_iast h hw (pc := 24) (ws' := cw cI cO a u Z (dG d 7 s k (d.1 7 s k - 1))) dX3_takesGood_24 (23 + s) (cw_g cI cO a u Z d (by omega)) (vp_in_nI (by omega) (by omega)) (by rw [nI_clamp (by omega)]; exact cw_gs cI cO a u Z d (by omega) k _) ?_
  refine g_iconst h (pc := 25) (v := 1) dX3_takesGood_25 (by decide) ?_
  exact hret _ u dX3_takesGood_26 (by decide) ⟨rfl, hRC⟩ rfl (Nat.zero_le _) (Nat.zero_le _)

theorem iX3_goesDown_3 : ∀ w ∈ wsX30, w ∈ wsX3_goesDown := by decide +kernel
theorem fX3_goesDown_45 : Cond.fieldLink RX3 45 "SpareShelves" "dues" "LSpareShelves$Line;" ∈ wsX3_goesDown := by decide +kernel
theorem fX3_goesDown_48 : Cond.fieldLink RX3 48 "SpareShelves" "time" "I" ∈ wsX3_goesDown := by decide +kernel
theorem fX3_goesDown_19 : Cond.fieldLink RX3 19 "SpareShelves" "tree" "LSpareShelves$Tree;" ∈ wsX3_goesDown := by decide +kernel
theorem iX3_goesDown_2 : ∀ w ∈ wsX20, w ∈ wsX3_goesDown := by decide +kernel
theorem fX3_goesDown_80 : Cond.fieldLink RX3 80 "SpareShelves$Tree" "way" "[I" ∈ wsX3_goesDown := by decide +kernel
set_option maxHeartbeats 4000000 in
set_option maxRecDepth 100000 in
theorem c_down (l : Launch) (D : va_G) (cI cO : ClassId) (a : Nat → Nat) (u : UX) (Z : Sg) (d : Dy) (hRC : RC d u) (ns nk : Nat) (hz : Zv ns nk Z) (hsz : sz d ≤ 25000) (s k : Nat) (hs : s < ns) (hk : k < nk) : CVc l yX3_goesDown wsX3_goesDown 3 140 D cI cO a u Z d [.int (nI s), .int (nI k)] Z (down Z d s k) := by
  unfold CVc
  refine CV.of (cc := cX3_goesDown) (maxL := 3) (by decide) rfl (Nat.le_of_ble_eq_true rfl) ?_
  intro C hgL hgD hw h hret
  have hn8 := hz.n8
  have hk8 := hz.k8
  refine g_aload_n h (pc := 0) dX3_goesDown_0 0 rfl ?_
  refine g_get h (pc := 1) dX3_goesDown_1 iX3_goesDown_3 0 rfl rfl 7 (by decide) fX3_goesDown_45 rfl ?_
  refine g_iload_n h (pc := 4) dX3_goesDown_4 1 rfl ?_
  refine g_iload_n h (pc := 5) dX3_goesDown_5 2 rfl ?_
  refine g_iconst h (pc := 6) (v := 0) dX3_goesDown_6 (by decide) ?_
  refine g_aload_n h (pc := 7) dX3_goesDown_7 0 rfl ?_
  refine g_get h (pc := 8) dX3_goesDown_8 iX3_goesDown_3 0 rfl rfl 8 (by decide) fX3_goesDown_48 rfl ?_
  refine g_aload_n h (pc := 11) dX3_goesDown_11 0 rfl ?_
  refine g_get h (pc := 12) dX3_goesDown_12 iX3_goesDown_3 0 rfl rfl 1 (by decide) fX3_goesDown_19 rfl ?_
  refine g_get h (pc := 15) dX3_goesDown_15 iX3_goesDown_2 10 rfl rfl 1 (by decide) fX3_goesDown_80 rfl ?_
  refine g_iload_n h (pc := 18) dX3_goesDown_18 1 rfl ?_
  refine g_iald h (pc := 19) (v := Z 4 0 s) dX3_goesDown_19 12 rfl (vp_in_nI (by omega) (by omega)) (by rw [nI_clamp (by omega)]) ?_
  refine g_iadd h (pc := 20) dX3_goesDown_20  ?_
  refine g_iconst h (pc := 21) (v := (-1)) dX3_goesDown_21 (by decide) ?_
  refine g_dadd h hw (pc := 22) dX3_goesDown_22 hRC (by have h9 : d.2.2.1.length ≤ sz d := Nat.le_add_left _ _; omega) (nI s, nI k, 0, Z 14 0 2 + Z 4 0 s, 0) rfl gX3_goesDown_X1_add ⟨Nat.le_of_ble_eq_true rfl, Nat.le_of_ble_eq_true rfl⟩ (Nat.le_of_ble_eq_true rfl) ⟨Nat.le_of_eq (Nat.zero_add _), Nat.le_of_eq (Nat.zero_add _)⟩ (fun u2 hR2 => ?_)
  exact hret u2 dX3_goesDown_25 hR2 rfl (Nat.le_of_eq (Nat.zero_add _)) (Nat.le_of_eq (Nat.zero_add _))

theorem iX3_mendBegins_3 : ∀ w ∈ wsX30, w ∈ wsX3_mendBegins := by decide +kernel
theorem fX3_mendBegins_45 : Cond.fieldLink RX3 45 "SpareShelves" "dues" "LSpareShelves$Line;" ∈ wsX3_mendBegins := by decide +kernel
theorem fX3_mendBegins_48 : Cond.fieldLink RX3 48 "SpareShelves" "time" "I" ∈ wsX3_mendBegins := by decide +kernel
theorem fX3_mendBegins_19 : Cond.fieldLink RX3 19 "SpareShelves" "tree" "LSpareShelves$Tree;" ∈ wsX3_mendBegins := by decide +kernel
theorem iX3_mendBegins_2 : ∀ w ∈ wsX20, w ∈ wsX3_mendBegins := by decide +kernel
theorem fX3_mendBegins_72 : Cond.fieldLink RX3 72 "SpareShelves$Tree" "mendDays" "[[I" ∈ wsX3_mendBegins := by decide +kernel
set_option maxHeartbeats 4000000 in
set_option maxRecDepth 100000 in
theorem c_begins (l : Launch) (D : va_G) (cI cO : ClassId) (a : Nat → Nat) (u : UX) (Z : Sg) (d : Dy) (hRC : RC d u) (ns nk : Nat) (hz : Zv ns nk Z) (hsz : sz d ≤ 25000) (s k : Nat) (hs : s < ns) (hk : k < nk) : CVc l yX3_mendBegins wsX3_mendBegins 3 140 D cI cO a u Z d [.int (nI s), .int (nI k)] Z (begins Z d s k) := by
  unfold CVc
  refine CV.of (cc := cX3_mendBegins) (maxL := 3) (by decide) rfl (Nat.le_of_ble_eq_true rfl) ?_
  intro C hgL hgD hw h hret
  have hn8 := hz.n8
  have hk8 := hz.k8
  refine g_aload_n h (pc := 0) dX3_mendBegins_0 0 rfl ?_
  refine g_get h (pc := 1) dX3_mendBegins_1 iX3_mendBegins_3 0 rfl rfl 7 (by decide) fX3_mendBegins_45 rfl ?_
  refine g_iload_n h (pc := 4) dX3_mendBegins_4 1 rfl ?_
  refine g_iload_n h (pc := 5) dX3_mendBegins_5 2 rfl ?_
  refine g_iconst h (pc := 6) (v := 2) dX3_mendBegins_6 (by decide) ?_
  refine g_aload_n h (pc := 7) dX3_mendBegins_7 0 rfl ?_
  refine g_get h (pc := 8) dX3_mendBegins_8 iX3_mendBegins_3 0 rfl rfl 8 (by decide) fX3_mendBegins_48 rfl ?_
  refine g_aload_n h (pc := 11) dX3_mendBegins_11 0 rfl ?_
  refine g_get h (pc := 12) dX3_mendBegins_12 iX3_mendBegins_3 0 rfl rfl 1 (by decide) fX3_mendBegins_19 rfl ?_
  refine g_get h (pc := 15) dX3_mendBegins_15 iX3_mendBegins_2 10 rfl rfl 2 (by decide) fX3_mendBegins_72 rfl ?_
  refine g_iload_n h (pc := 18) dX3_mendBegins_18 1 rfl ?_
  refine g_aald h (pc := 19) (v := a (10 + (4 + s))) dX3_mendBegins_19 13 rfl (vp_in_nI (by omega) (by omega)) (by rw [nI_clamp (by omega)]) ?_
  refine g_iload_n h (pc := 20) dX3_mendBegins_20 2 rfl ?_
  refine g_iald h (pc := 21) (v := Z 6 s k) dX3_mendBegins_21 (10 + (4 + s)) (cw_m cI cO a u Z d (by omega)) (vp_in_nI (by omega) (by omega)) (by rw [nI_clamp (by omega)]) ?_
  refine g_iadd h (pc := 22) dX3_mendBegins_22  ?_
  refine g_iconst h (pc := 23) (v := (-1)) dX3_mendBegins_23 (by decide) ?_
  refine g_dadd h hw (pc := 24) dX3_mendBegins_24 hRC (by have h9 : d.2.2.1.length ≤ sz d := Nat.le_add_left _ _; omega) (nI s, nI k, 1, Z 14 0 2 + Z 6 s k, 0) rfl gX3_mendBegins_X1_add ⟨Nat.le_of_ble_eq_true rfl, Nat.le_of_ble_eq_true rfl⟩ (Nat.le_of_ble_eq_true rfl) ⟨Nat.le_of_eq (Nat.zero_add _), Nat.le_of_eq (Nat.zero_add _)⟩ (fun u2 hR2 => ?_)
  exact hret u2 dX3_mendBegins_27 hR2 rfl (Nat.le_of_eq (Nat.zero_add _)) (Nat.le_of_eq (Nat.zero_add _))

theorem iX3_setsOut_3 : ∀ w ∈ wsX30, w ∈ wsX3_setsOut := by decide +kernel
theorem fX3_setsOut_45 : Cond.fieldLink RX3 45 "SpareShelves" "dues" "LSpareShelves$Line;" ∈ wsX3_setsOut := by decide +kernel
theorem fX3_setsOut_48 : Cond.fieldLink RX3 48 "SpareShelves" "time" "I" ∈ wsX3_setsOut := by decide +kernel
theorem fX3_setsOut_19 : Cond.fieldLink RX3 19 "SpareShelves" "tree" "LSpareShelves$Tree;" ∈ wsX3_setsOut := by decide +kernel
set_option maxHeartbeats 4000000 in
set_option maxRecDepth 100000 in
theorem c_sets (l : Launch) (D : va_G) (cI cO : ClassId) (a : Nat → Nat) (u : UX) (Z : Sg) (d : Dy) (hRC : RC d u) (ns nk : Nat) (hz : Zv ns nk Z) (hsz : sz d ≤ 25000) (s k e : Nat) (hs : s < ns) (hk : k < nk) (hr : rch Z e 8 s) (how : Int32) : CVc l yX3_setsOut wsX3_setsOut 3 140 D cI cO a u Z d [.int (nI s), .int (nI k), .int (nI e), .int how] Z (sets Z d s k e how) := by
  unfold CVc
  refine CV.of (cc := cX3_setsOut) (maxL := 5) (by decide) rfl (Nat.le_of_ble_eq_true rfl) ?_
  intro C hgL hgD hw h hret
  have hn8 := hz.n8
  have hk8 := hz.k8
  refine g_aload_n h (pc := 0) dX3_setsOut_0 0 rfl ?_
  refine g_get h (pc := 1) dX3_setsOut_1 iX3_setsOut_3 0 rfl rfl 7 (by decide) fX3_setsOut_45 rfl ?_
  refine g_iload_n h (pc := 4) dX3_setsOut_4 3 rfl ?_
  refine g_iload_n h (pc := 5) dX3_setsOut_5 2 rfl ?_
  refine g_iconst h (pc := 6) (v := 1) dX3_setsOut_6 (by decide) ?_
  refine g_aload_n h (pc := 7) dX3_setsOut_7 0 rfl ?_
  refine g_get h (pc := 8) dX3_setsOut_8 iX3_setsOut_3 0 rfl rfl 8 (by decide) fX3_setsOut_48 rfl ?_
  refine g_aload_n h (pc := 11) dX3_setsOut_11 0 rfl ?_
  refine g_get h (pc := 12) dX3_setsOut_12 iX3_setsOut_3 0 rfl rfl 1 (by decide) fX3_setsOut_19 rfl ?_
  refine g_iload_n h (pc := 15) dX3_setsOut_15 1 rfl ?_
  refine g_iload_n h (pc := 16) dX3_setsOut_16 3 rfl ?_
  refine g_callR h (pc := 17) (As := [.int (nI s), .int (nI e)]) (st := [.int (Z 14 0 2), .int 1, .int (nI k), .int (nI e), .ref (a 44)]) dX3_setsOut_17 (c_ways (gL C) (gD C) cI cO (fun i => a (10 + i)) Z ns nk hz s e hs hr) [10, 11, 12, 13, 14, 15, 16, 17, 18, 19, 20, 21] rfl (by decide) gX3_setsOut_X2_waysUp rfl (q0 := 0) rfl rfl (show nPar yX2_waysUp RX2 2 = true by decide +kernel) ⟨Nat.le_of_ble_eq_true rfl, Nat.le_of_ble_eq_true rfl⟩ rfl (Nat.le_of_ble_eq_true rfl) ⟨Nat.zero_le _, Nat.zero_le _⟩ (fun r9 hr9 => ?_)
  subst hr9
  refine g_iadd h (pc := 20) dX3_setsOut_20  ?_
  refine g_iload h (pc := 21) dX3_setsOut_21 4 rfl ?_
  refine g_dadd h hw (pc := 23) dX3_setsOut_23 hRC (by have h9 : d.2.2.1.length ≤ sz d := Nat.le_add_left _ _; omega) (nI e, nI k, 3, Z 14 0 2 + wy Z e 8 s 0, how) rfl gX3_setsOut_X1_add ⟨Nat.le_of_ble_eq_true rfl, Nat.le_of_ble_eq_true rfl⟩ (Nat.le_of_ble_eq_true rfl) ⟨Nat.le_of_eq (Nat.zero_add _), Nat.le_of_eq (Nat.zero_add _)⟩ (fun u2 hR2 => ?_)
  exact hret u2 dX3_setsOut_26 hR2 rfl (Nat.le_of_eq (Nat.zero_add _)) (Nat.le_of_eq (Nat.zero_add _))
