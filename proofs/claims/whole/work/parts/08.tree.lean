/-! the tree's cells and its reading methods -/
abbrev rwO (b : Nat → Nat) (base : Nat) : Nat → Option Nat := fun i => some (b (base + i))
abbrev twd (cI cO : ClassId) (b : Nat → Nat) (Z : Sg) : va_W := [(b 0, .inr (2, [.ref (b 1), .ref (b 2), .ref (b 3), .int (Z 14 0 1)])), (b 1, .inl (cI, 8, .inl (Z 3 0))), (b 2, .inl (cI, 8, .inl (Z 4 0))), (b 3, .inl (cO, 8, .inr (.inr (.inr (.inr (rwO b 4)))))), (b 4, .inl (cI, 8, .inl (Z 6 0))), (b 5, .inl (cI, 8, .inl (Z 6 1))), (b 6, .inl (cI, 8, .inl (Z 6 2))), (b 7, .inl (cI, 8, .inl (Z 6 3))), (b 8, .inl (cI, 8, .inl (Z 6 4))), (b 9, .inl (cI, 8, .inl (Z 6 5))), (b 10, .inl (cI, 8, .inl (Z 6 6))), (b 11, .inl (cI, 8, .inl (Z 6 7)))]
theorem twd_m (cI cO : ClassId) (b : Nat → Nat) (Z : Sg) {x : Nat} (h : x < 8) : (twd cI cO b Z)[4 + x]? = some (b (4 + x), .inl (cI, 8, .inl (Z 6 x))) := by
  rcases (show x = 0 ∨ x = 1 ∨ x = 2 ∨ x = 3 ∨ x = 4 ∨ x = 5 ∨ x = 6 ∨ x = 7 by omega) with rfl | rfl | rfl | rfl | rfl | rfl | rfl | rfl <;> rfl
abbrev kwd (cI : ClassId) (b : Nat → Nat) (Z d : Sg) : va_W := [(b 0, .inr (0, [.ref (b 1), .ref (b 2), .ref (b 3), .ref (b 4), .ref (b 5), .ref (b 6), .ref (b 7), .ref (b 8), .int (Z 14 0 0)])), (b 1, .inl (cI, 8, .inl (Z 0 0))), (b 2, .inl (cI, 8, .inl (Z 1 0))), (b 3, .inl (cI, 8, .inl (Z 2 0))), (b 4, .inl (cI, 8, .inl (d 9 0))), (b 5, .inl (cI, 8, .inl (d 10 0))), (b 6, .inl (cI, 8, .inl (d 11 0))), (b 7, .inl (cI, 8, .inl (d 12 0))), (b 8, .inl (cI, 8, .inl (d 13 0)))]
/-- a number is one of the first n -/
def isIn (x : Int32) (n : Nat) : Bool := decide (0 ≤ x.toInt ∧ x.toInt < n)
theorem isIn_f1 {x : Int32} {n : Nat} (h : x < 0) : isIn x n = false := decide_eq_false (fun q => by rw [Int32.lt_iff_toInt_lt] at h; simp at h; omega)
theorem isIn_f2 {x : Int32} {n : Nat} (hn : n < 100) (h : nI n ≤ x) : isIn x n = false := decide_eq_false (fun q => by rw [Int32.le_iff_toInt_le, nI_toInt (by omega)] at h; omega)
theorem isIn_t {x : Int32} {n : Nat} (hn : n < 100) (h1 : ¬ x < 0) (h2 : ¬ nI n ≤ x) : isIn x n = true := decide_eq_true (by rw [Int32.lt_iff_toInt_lt] at h1; rw [Int32.le_iff_toInt_le, nI_toInt (by omega)] at h2; simp at h1; omega)
theorem isIn_of {x : Int32} {n : Nat} (hn : n < 100) (h : isIn x n = true) : ∃ j : Nat, j < n ∧ x = nI j := by
  have h1 := of_decide_eq_true h
  exact vp_in_of (vp_in_iff.mpr h1) (by omega)
theorem isIn_nI {j n : Nat} (h : j < n) (hn : n < 100) : isIn (nI j) n = true := decide_eq_true (by rw [nI_toInt (by omega)]; omega)

theorem iX0_has_0 : ∀ w ∈ wsX00, w ∈ wsX0_has := by decide +kernel
theorem fX0_has_36 : Cond.fieldLink RX0 36 "SpareShelves$Kinds" "size" "I" ∈ wsX0_has := by decide +kernel
set_option maxHeartbeats 4000000 in
set_option maxRecDepth 100000 in
theorem c_khas (l : Launch) (D : va_G) (cI cO : ClassId) (b : Nat → Nat) (Z d : Sg) (n : Nat) (hn : n ≤ 8) (hz : Z 14 0 0 = nI n) (x : Int32) : CR l yX0_has wsX0_has 0 0 D cI cO [.ref (b 0), .int x] (kwd cI b Z d) (fun r => r = if isIn x n then 1 else 0) := by
  refine CR.of (cc := cX0_has) (maxL := 2) (rt := .boolean) (by decide) rfl (Nat.le_of_ble_eq_true rfl) ?_
  intro C hgL hgD h hret
  refine g_iload_n h (pc := 0) dX0_has_0 1 rfl ?_
  refine g_if_lt h (pc := 1) (tgt := 16) dX0_has_1 (by decide) (fun c1 => ?_) (fun c1 => ?_)
  · refine g_iconst h (pc := 16) (v := 0) dX0_has_16 (by decide) ?_
    exact hret _ dX0_has_17 (by decide) (by rw [isIn_f1 c1]; rfl)
  · refine g_iload_n h (pc := 4) dX0_has_4 1 rfl ?_
    refine g_aload_n h (pc := 5) dX0_has_5 0 rfl ?_
    refine g_get h (pc := 6) dX0_has_6 iX0_has_0 0 rfl rfl 8 (by decide) fX0_has_36 rfl ?_
    rw [hz]
    refine g_icmp_ge h (pc := 9) (tgt := 16) dX0_has_9 (by decide) (fun c2 => ?_) (fun c2 => ?_)
    · refine g_iconst h (pc := 16) (v := 0) dX0_has_16 (by decide) ?_
      exact hret _ dX0_has_17 (by decide) (by rw [isIn_f2 (by omega) c2]; rfl)
    · refine g_iconst h (pc := 12) (v := 1) dX0_has_12 (by decide) ?_
      refine g_goto h (pc := 13) (tgt := 17) dX0_has_13 (by decide) ?_
      exact hret _ dX0_has_17 (by decide) (by rw [isIn_t (by omega) c1 c2]; rfl)

theorem iX2_has_2 : ∀ w ∈ wsX20, w ∈ wsX2_has := by decide +kernel
theorem fX2_has_23 : Cond.fieldLink RX2 23 "SpareShelves$Tree" "size" "I" ∈ wsX2_has := by decide +kernel
set_option maxHeartbeats 4000000 in
set_option maxRecDepth 100000 in
theorem c_thas (l : Launch) (D : va_G) (cI cO : ClassId) (b : Nat → Nat) (Z : Sg) (n : Nat) (hn : n ≤ 8) (hz : Z 14 0 1 = nI n) (x : Int32) : CR l yX2_has wsX2_has 0 0 D cI cO [.ref (b 0), .int x] (twd cI cO b Z) (fun r => r = if isIn x n then 1 else 0) := by
  refine CR.of (cc := cX2_has) (maxL := 2) (rt := .boolean) (by decide) rfl (Nat.le_of_ble_eq_true rfl) ?_
  intro C hgL hgD h hret
  refine g_iload_n h (pc := 0) dX2_has_0 1 rfl ?_
  refine g_if_lt h (pc := 1) (tgt := 16) dX2_has_1 (by decide) (fun c1 => ?_) (fun c1 => ?_)
  · refine g_iconst h (pc := 16) (v := 0) dX2_has_16 (by decide) ?_
    exact hret _ dX2_has_17 (by decide) (by rw [isIn_f1 c1]; rfl)
  · refine g_iload_n h (pc := 4) dX2_has_4 1 rfl ?_
    refine g_aload_n h (pc := 5) dX2_has_5 0 rfl ?_
    refine g_get h (pc := 6) dX2_has_6 iX2_has_2 0 rfl rfl 3 (by decide) fX2_has_23 rfl ?_
    rw [hz]
    refine g_icmp_ge h (pc := 9) (tgt := 16) dX2_has_9 (by decide) (fun c2 => ?_) (fun c2 => ?_)
    · refine g_iconst h (pc := 16) (v := 0) dX2_has_16 (by decide) ?_
      exact hret _ dX2_has_17 (by decide) (by rw [isIn_f2 (by omega) c2]; rfl)
    · refine g_iconst h (pc := 12) (v := 1) dX2_has_12 (by decide) ?_
      refine g_goto h (pc := 13) (tgt := 17) dX2_has_13 (by decide) ?_
      exact hret _ dX2_has_17 (by decide) (by rw [isIn_t (by omega) c1 c2]; rfl)

theorem iX2_firstThatMends_2 : ∀ w ∈ wsX20, w ∈ wsX2_firstThatMends := by decide +kernel
theorem fX2_firstThatMends_20 : Cond.fieldLink RX2 20 "SpareShelves$Tree" "mendDays" "[[I" ∈ wsX2_firstThatMends := by decide +kernel
theorem fX2_firstThatMends_9 : Cond.fieldLink RX2 9 "SpareShelves$Tree" "up" "[I" ∈ wsX2_firstThatMends := by decide +kernel
set_option maxHeartbeats 4000000 in
set_option maxRecDepth 100000 in
theorem c_first (l : Launch) (D : va_G) (cI cO : ClassId) (b : Nat → Nat) (Z : Sg) (ns nk : Nat) (hz : Zv ns nk Z) (s k : Nat) (hs : s < ns) (hk : k < nk) : CR l yX2_firstThatMends wsX2_firstThatMends 0 0 D cI cO [.ref (b 0), .int (nI s), .int (nI k)] (twd cI cO b Z) (fun r => r = nI (mOf Z k s)) := by
  refine CR.of (cc := cX2_firstThatMends) (maxL := 5) (rt := .int) (by decide) rfl (Nat.le_of_ble_eq_true rfl) ?_
  intro C hgL hgD h hret
  have hn8 := hz.n8
  have hk8 := hz.k8
  refine g_iload_n h (pc := 0) dX2_firstThatMends_0 1 rfl ?_
  refine g_istore_n h (pc := 1) dX2_firstThatMends_1 (by decide) rfl ?_
  refine g_iconst h (pc := 2) (v := 0) dX2_firstThatMends_2 (by decide) ?_
  refine g_istore h (pc := 3) dX2_firstThatMends_3 (by decide) rfl ?_
  suffices loop : ∀ (n j x : Nat), j + n = 8 → x < n → x < ns → mo Z k n x = mOf Z k s → GG C 5 (twd cI cO b Z) 0 0 5 [(0, .ref (b 0)), (1, .int (nI s)), (2, .int (nI k)), (3, .int (nI x)), (4, .int (nI j))] [] from loop 8 0 s (by omega) (by omega) hs rfl
  intro n
  induction n with
  | zero =>
    intro j x h1 h2
    exact absurd h2 (by omega)
  | succ n ih =>
    intro j x h1 h2 h3 hm
    refine g_iload h (pc := 5) dX2_firstThatMends_5 4 rfl ?_
    refine g_bipush h (pc := 7) (v := 8) dX2_firstThatMends_7 (by decide) ?_
    refine g_icmp_ge_f h (pc := 9) (tgt := 40) dX2_firstThatMends_9 (by decide) (nI_ge (a := j) (b := 8) (by omega) (by omega)) ?_
    refine g_iload_n h (pc := 12) dX2_firstThatMends_12 3 rfl ?_
    rcases Nat.eq_zero_or_pos x with h0 | h0
    · subst h0
      refine g_if_le_t h (pc := 13) (tgt := 40) dX2_firstThatMends_13 (by decide) (by decide) ?_
      refine g_iload_n h (pc := 40) dX2_firstThatMends_40 3 rfl ?_
      exact hret _ dX2_firstThatMends_41 rfl (by rw [← hm, mo, if_neg (hz.m0 hk)])
    · refine g_if_le_f h (pc := 13) (tgt := 40) dX2_firstThatMends_13 (by decide) (nI_nle h0 (by omega)) ?_
      refine g_aload_n h (pc := 16) dX2_firstThatMends_16 0 rfl ?_
      refine g_get h (pc := 17) dX2_firstThatMends_17 iX2_firstThatMends_2 0 rfl rfl 2 (by decide) fX2_firstThatMends_20 rfl ?_
      refine g_iload_n h (pc := 20) dX2_firstThatMends_20 3 rfl ?_
      refine g_aald h (pc := 21) (v := b (4 + x)) dX2_firstThatMends_21 3 rfl (vp_in_nI (by omega) (by omega)) (by rw [nI_clamp (by omega)]) ?_
      refine g_iload_n h (pc := 22) dX2_firstThatMends_22 2 rfl ?_
      refine g_iald h (pc := 23) (v := Z 6 x k) dX2_firstThatMends_23 (4 + x) (twd_m cI cO b Z (by omega)) (vp_in_nI (by omega) (by omega)) (by rw [nI_clamp (by omega)]) ?_
      refine g_if_ne h (pc := 24) (tgt := 40) dX2_firstThatMends_24 (by decide) (fun c2 => ?_) (fun c2 => ?_)
      · refine g_iload_n h (pc := 40) dX2_firstThatMends_40 3 rfl ?_
        exact hret _ dX2_firstThatMends_41 rfl (by rw [← hm, mo, if_neg c2])
      · have h4 := hz.lt h0 h3
        refine g_aload_n h (pc := 27) dX2_firstThatMends_27 0 rfl ?_
        refine g_get h (pc := 28) dX2_firstThatMends_28 iX2_firstThatMends_2 0 rfl rfl 0 (by decide) fX2_firstThatMends_9 rfl ?_
        refine g_iload_n h (pc := 31) dX2_firstThatMends_31 3 rfl ?_
        refine g_iald h (pc := 32) (v := nI (upx Z x)) dX2_firstThatMends_32 1 rfl (vp_in_nI (by omega) (by omega)) (by rw [nI_clamp (by omega)]; exact hz.up h0 h3) ?_
        refine g_istore_n h (pc := 33) dX2_firstThatMends_33 (by decide) rfl ?_
        refine g_iinc h (pc := 34) dX2_firstThatMends_34 4 rfl (nI_1 j) (by decide) rfl ?_
        refine g_goto h (pc := 37) (tgt := 5) dX2_firstThatMends_37 (by decide) ?_
        exact ih (j + 1) (upx Z x) (by omega) (by omega) (by omega) (by rw [← hm, mo, if_pos c2])

theorem iX2_waysUp_2 : ∀ w ∈ wsX20, w ∈ wsX2_waysUp := by decide +kernel
theorem fX2_waysUp_15 : Cond.fieldLink RX2 15 "SpareShelves$Tree" "way" "[I" ∈ wsX2_waysUp := by decide +kernel
theorem fX2_waysUp_9 : Cond.fieldLink RX2 9 "SpareShelves$Tree" "up" "[I" ∈ wsX2_waysUp := by decide +kernel
set_option maxHeartbeats 4000000 in
set_option maxRecDepth 100000 in
theorem c_ways (l : Launch) (D : va_G) (cI cO : ClassId) (b : Nat → Nat) (Z : Sg) (ns nk : Nat) (hz : Zv ns nk Z) (s e : Nat) (hs : s < ns) (hr : rch Z e 8 s) : CR l yX2_waysUp wsX2_waysUp 0 0 D cI cO [.ref (b 0), .int (nI s), .int (nI e)] (twd cI cO b Z) (fun r => r = wy Z e 8 s 0) := by
  refine CR.of (cc := cX2_waysUp) (maxL := 6) (rt := .int) (by decide) rfl (Nat.le_of_ble_eq_true rfl) ?_
  intro C hgL hgD h hret
  have hn8 := hz.n8
  refine g_iconst h (pc := 0) (v := 0) dX2_waysUp_0 (by decide) ?_
  refine g_istore_n h (pc := 1) dX2_waysUp_1 (by decide) rfl ?_
  refine g_iload_n h (pc := 2) dX2_waysUp_2 1 rfl ?_
  refine g_istore h (pc := 3) dX2_waysUp_3 (by decide) rfl ?_
  refine g_iconst h (pc := 5) (v := 0) dX2_waysUp_5 (by decide) ?_
  refine g_istore h (pc := 6) dX2_waysUp_6 (by decide) rfl ?_
  suffices loop : ∀ (n j x : Nat) (acc : Int32), j + n = 8 → x < ns → rch Z e n x → wy Z e n x acc = wy Z e 8 s 0 → GG C 6 (twd cI cO b Z) 0 0 8 [(0, .ref (b 0)), (1, .int (nI s)), (2, .int (nI e)), (3, .int acc), (4, .int (nI x)), (5, .int (nI j))] [] from loop 8 0 s 0 (by omega) hs hr rfl
  intro n
  induction n with
  | zero =>
    intro j x acc h1 h2 h3 hm
    refine g_iload h (pc := 8) dX2_waysUp_8 5 rfl ?_
    refine g_bipush h (pc := 10) (v := 8) dX2_waysUp_10 (by decide) ?_
    refine g_icmp_ge_t h (pc := 12) (tgt := 46) dX2_waysUp_12 (by decide) (nI_le (a := 8) (b := j) (by omega) (by omega)) ?_
    refine g_iload_n h (pc := 46) dX2_waysUp_46 3 rfl ?_
    exact hret _ dX2_waysUp_47 rfl (by rw [← hm, wy])
  | succ n ih =>
    intro j x acc h1 h2 h3 hm
    have hle := rch_le hz (n + 1) x h2 h3
    refine g_iload h (pc := 8) dX2_waysUp_8 5 rfl ?_
    refine g_bipush h (pc := 10) (v := 8) dX2_waysUp_10 (by decide) ?_
    refine g_icmp_ge_f h (pc := 12) (tgt := 46) dX2_waysUp_12 (by decide) (nI_ge (a := j) (b := 8) (by omega) (by omega)) ?_
    refine g_iload h (pc := 15) dX2_waysUp_15 4 rfl ?_
    refine g_iload_n h (pc := 17) dX2_waysUp_17 2 rfl ?_
    by_cases hx : x = e
    · subst hx
      refine g_icmp_le_t h (pc := 18) (tgt := 46) dX2_waysUp_18 (by decide) (Int32.le_refl _) ?_
      refine g_iload_n h (pc := 46) dX2_waysUp_46 3 rfl ?_
      exact hret _ dX2_waysUp_47 rfl (by rw [← hm, wy, if_pos rfl])
    · refine g_icmp_le_f h (pc := 18) (tgt := 46) dX2_waysUp_18 (by decide) (nI_ge (by omega) (by omega)) ?_
      rw [rch] at h3
      obtain ⟨h0, h3⟩ := h3.resolve_left hx
      have h4 := hz.lt h0 h2
      rw [wy, if_neg hx] at hm
      refine g_iload_n h (pc := 21) dX2_waysUp_21 3 rfl ?_
      refine g_aload_n h (pc := 22) dX2_waysUp_22 0 rfl ?_
      refine g_get h (pc := 23) dX2_waysUp_23 iX2_waysUp_2 0 rfl rfl 1 (by decide) fX2_waysUp_15 rfl ?_
      refine g_iload h (pc := 26) dX2_waysUp_26 4 rfl ?_
      refine g_iald h (pc := 28) (v := Z 4 0 x) dX2_waysUp_28 2 rfl (vp_in_nI (by omega) (by omega)) (by rw [nI_clamp (by omega)]) ?_
      refine g_iadd h (pc := 29) dX2_waysUp_29  ?_
      refine g_istore_n h (pc := 30) dX2_waysUp_30 (by decide) rfl ?_
      refine g_aload_n h (pc := 31) dX2_waysUp_31 0 rfl ?_
      refine g_get h (pc := 32) dX2_waysUp_32 iX2_waysUp_2 0 rfl rfl 0 (by decide) fX2_waysUp_9 rfl ?_
      refine g_iload h (pc := 35) dX2_waysUp_35 4 rfl ?_
      refine g_iald h (pc := 37) (v := nI (upx Z x)) dX2_waysUp_37 1 rfl (vp_in_nI (by omega) (by omega)) (by rw [nI_clamp (by omega)]; exact hz.up h0 h2) ?_
      refine g_istore h (pc := 38) dX2_waysUp_38 (by decide) rfl ?_
      refine g_iinc h (pc := 40) dX2_waysUp_40 5 rfl (nI_1 j) (by decide) rfl ?_
      refine g_goto h (pc := 43) (tgt := 8) dX2_waysUp_43 (by decide) ?_
      exact ih (j + 1) (upx Z x) _ (by omega) (by omega) h3 hm
