/-! the law's loop -/
theorem i32_rt (y : Int32) : y = Int32.ofNat y.toUInt32.toNat := by
  apply Int32.toBitVec_inj.mp
  show y.toBitVec = BitVec.ofNat 32 y.toBitVec.toNat
  simp
theorem and15 (x : Int32) : ∃ j : Nat, j < 16 ∧ x &&& 15 = nI j := by
  refine ⟨(x &&& 15).toUInt32.toNat, ?_, i32_rt _⟩
  have h1 : (x &&& 15).toUInt32 = x.toUInt32 &&& 15 := rfl
  rw [h1, UInt32.toNat_and]
  exact Nat.lt_of_le_of_lt Nat.and_le_right (by decide)
theorem gt5 {i L : Nat} (hi : i < 1000000) (hL : L ≤ 2560) : nI L - 5 < nI i ↔ L < i + 5 := by
  rw [Int32.lt_iff_toInt_lt, Int32.toInt_sub, nI_toInt (by omega), nI_toInt (by omega), show (5 : Int32).toInt = 5 from rfl]
  have h1 : ((L : Int) - 5).bmod (2 ^ 32) = (L : Int) - 5 := by
    rw [Int.bmod_def]
    split <;> omega
  rw [h1]
  omega
set_option maxHeartbeats 4000000 in
set_option maxRecDepth 100000 in
theorem law_loop (C : GX) (cI cO : ClassId) (h : OKx C cL_law 4 wsL_law RL room_1 cI cO) (hw : ¬ gRo C) (b L : Nat) (xs : Nat → Int32) (hX : SX C b L xs) (hL : L ≤ 2560) (a hm : Nat → Nat) (hend : ∀ {k n : Nat} {ws : va_W} {lv : List (Nat × Value)}, k ≤ 600000 → n ≤ 7302250 → GG C 4 ws k n 677 lv [.int 1]) : ∀ (n i B : Nat) (Z : Sg) (d : Dy) (u : UX) (v : MX), i < 100000 → L < i + 5 * n → B + 200000 * n ≤ 600000000 → Iw B Z d → Cq d → RC d u → RM d v → GG C 4 (cw cI cO a u Z d ++ mwd cI hm v Z d) (71 + cp d) (70000 + 2 * cp d) 18 [(0, .ref b), (1, .ref (a 0)), (2, .ref (hm 0)), (3, .int (nI i))] [] := by
  intro n
  induction n with
  | zero =>
    intro i B Z d u v hi1 hi hB hI hc hRC hRM
    have hcp := hc.cp
    refine g_iload_n h (pc := 18) dL_law_18 3 rfl ?_
    refine g_aload_n h (pc := 19) dL_law_19 0 rfl ?_
    refine g_slen h hX (pc := 20) dL_law_20 ?_
    refine g_iconst h (pc := 21) (v := 5) dL_law_21 (by decide) ?_
    refine g_isub h (pc := 22) dL_law_22 ?_
    refine g_icmp_gt_t h (pc := 23) (tgt := 676) dL_law_23 (by decide) ((gt5 (by omega) hL).mpr (by omega)) ?_
    refine g_iconst h (pc := 676) (v := 1) dL_law_676 (by decide) ?_
    exact hend (by omega) (by omega)
  | succ n ih =>
    intro i B Z d u v hi1 hi hB hI hc hRC hRM
    have hcp := hc.cp
    refine g_iload_n h (pc := 18) dL_law_18 3 rfl ?_
    refine g_aload_n h (pc := 19) dL_law_19 0 rfl ?_
    refine g_slen h hX (pc := 20) dL_law_20 ?_
    refine g_iconst h (pc := 21) (v := 5) dL_law_21 (by decide) ?_
    refine g_isub h (pc := 22) dL_law_22 ?_
    refine g_icmp_gt h (pc := 23) (tgt := 676) dL_law_23 (by decide) (fun c9 => ?_) (fun c9 => ?_)
    · refine g_iconst h (pc := 676) (v := 1) dL_law_676 (by decide) ?_
      exact hend (by omega) (by omega)
    · rw [gt5 (by omega) hL] at c9
      obtain ⟨ns, nk, t, hI⟩ := hI
      have tail : ∀ (Z2 : Sg) (d2 : Dy) (u2 : UX) (v2 : MX), Iw (B + 200000) Z2 d2 → Cq d2 → RC d2 u2 → RM d2 v2 → GG C 4 (cw cI cO a u2 Z2 d2 ++ mwd cI hm v2 Z2 d2) (71 + cp d2) (70000 + 2 * cp d2) 670 [(0, .ref b), (1, .ref (a 0)), (2, .ref (hm 0)), (3, .int (nI i))] [] := by
        intro Z2 d2 u2 v2 q1 q2 q3 q4
        refine g_iinc h (pc := 670) dL_law_670 3 rfl (v := nI (i + 5)) (nI_add i 5) (by decide) (lv' := [(0, .ref b), (1, .ref (a 0)), (2, .ref (hm 0)), (3, .int (nI (i + 5)))]) rfl ?_
        refine g_goto h (pc := 673) (tgt := 18) dL_law_673 (by decide) ?_
        exact ih (i + 5) (B + 200000) Z2 d2 u2 v2 (by omega) (by omega) (by omega) q1 q2 q3 q4
      refine g_aload_n h (pc := 26) dL_law_26 0 rfl ?_
      refine g_iload_n h (pc := 27) dL_law_27 3 rfl ?_
      refine g_sld h hX (pc := 28) dL_law_28 (vp_in_nI (by omega) (by omega)) rfl ?_
      refine g_bipush h (pc := 29) (v := 15) dL_law_29 (by decide) ?_
      refine g_iand h (pc := 31) dL_law_31 ?_
      obtain ⟨j, hj, ej⟩ := and15 (xs (nI i).toNatClampNeg)
      refine g_topi (y := nI j) ej ?_
      rcases (show j = 0 ∨ j = 1 ∨ j = 2 ∨ j = 3 ∨ j = 4 ∨ j = 5 ∨ j = 6 ∨ j = 7 ∨ j = 8 ∨ j = 9 ∨ j = 10 ∨ j = 11 ∨ j = 12 ∨ j = 13 ∨ j = 14 ∨ j = 15 by omega) with rfl | rfl | rfl | rfl | rfl | rfl | rfl | rfl | rfl | rfl | rfl | rfl | rfl | rfl | rfl | rfl
      · refine g_tblIn h (pc := 32) (tgt := 112) dL_law_32 (by decide) (by decide) (off := 80) rfl (by decide) ?_
        exact arm_0 C cI cO h hw b L xs hX hL a hm i B ns nk t Z d u v (by omega) hI hc hRC hRM (by omega) tail
      · refine g_tblIn h (pc := 32) (tgt := 155) dL_law_32 (by decide) (by decide) (off := 123) rfl (by decide) ?_
        exact arm_1 C cI cO h hw b L xs hX hL a hm i B ns nk t Z d u v (by omega) hI hc hRC hRM (by omega) tail
      · refine g_tblIn h (pc := 32) (tgt := 188) dL_law_32 (by decide) (by decide) (off := 156) rfl (by decide) ?_
        exact arm_2 C cI cO h hw b L xs hX hL a hm i B ns nk t Z d u v (by omega) hI hc hRC hRM (by omega) tail
      · refine g_tblIn h (pc := 32) (tgt := 231) dL_law_32 (by decide) (by decide) (off := 199) rfl (by decide) ?_
        exact arm_3 C cI cO h hw b L xs hX hL a hm i B ns nk t Z d u v (by omega) hI hc hRC hRM (by omega) tail
      · refine g_tblIn h (pc := 32) (tgt := 274) dL_law_32 (by decide) (by decide) (off := 242) rfl (by decide) ?_
        exact arm_4 C cI cO h hw b L xs hX hL a hm i B ns nk t Z d u v (by omega) hI hc hRC hRM (by omega) tail
      · refine g_tblIn h (pc := 32) (tgt := 317) dL_law_32 (by decide) (by decide) (off := 285) rfl (by decide) ?_
        exact arm_5 C cI cO h hw b L xs hX hL a hm i B ns nk t Z d u v (by omega) hI hc hRC hRM (by omega) tail
      · refine g_tblIn h (pc := 32) (tgt := 360) dL_law_32 (by decide) (by decide) (off := 328) rfl (by decide) ?_
        exact arm_6 C cI cO h hw b L xs hX hL a hm i B ns nk t Z d u v (by omega) hI hc hRC hRM (by omega) tail
      · refine g_tblIn h (pc := 32) (tgt := 383) dL_law_32 (by decide) (by decide) (off := 351) rfl (by decide) ?_
        exact arm_7 C cI cO h hw b L xs hX hL a hm i B ns nk t Z d u v (by omega) hI hc hRC hRM (by omega) tail
      · refine g_tblIn h (pc := 32) (tgt := 396) dL_law_32 (by decide) (by decide) (off := 364) rfl (by decide) ?_
        exact arm_8 C cI cO h hw b L xs hX hL a hm i B ns nk t Z d u v (by omega) hI hc hRC hRM (by omega) tail
      · refine g_tblIn h (pc := 32) (tgt := 439) dL_law_32 (by decide) (by decide) (off := 407) rfl (by decide) ?_
        exact arm_9 C cI cO h hw b L xs hX hL a hm i B ns nk t Z d u v (by omega) hI hc hRC hRM (by omega) tail
      · refine g_tblIn h (pc := 32) (tgt := 492) dL_law_32 (by decide) (by decide) (off := 460) rfl (by decide) ?_
        exact arm_10 C cI cO h hw b L xs hX hL a hm i B ns nk t Z d u v (by omega) hI hc hRC hRM (by omega) tail
      · refine g_tblIn h (pc := 32) (tgt := 525) dL_law_32 (by decide) (by decide) (off := 493) rfl (by decide) ?_
        exact arm_11 C cI cO h hw b L xs hX hL a hm i B ns nk t Z d u v (by omega) hI hc hRC hRM (by omega) tail
      · refine g_tblIn h (pc := 32) (tgt := 558) dL_law_32 (by decide) (by decide) (off := 526) rfl (by decide) ?_
        exact arm_12 C cI cO h hw b L xs hX hL a hm i B ns nk t Z d u v (by omega) hI hc hRC hRM (by omega) tail
      · refine g_tblIn h (pc := 32) (tgt := 591) dL_law_32 (by decide) (by decide) (off := 559) rfl (by decide) ?_
        exact arm_13 C cI cO h hw b L xs hX hL a hm i B ns nk t Z d u v (by omega) hI hc hRC hRM (by omega) tail
      · refine g_tblIn h (pc := 32) (tgt := 634) dL_law_32 (by decide) (by decide) (off := 602) rfl (by decide) ?_
        exact arm_14 C cI cO h hw b L xs hX hL a hm i B ns nk t Z d u v (by omega) hI hc hRC hRM (by omega) tail
      · refine g_tblIn h (pc := 32) (tgt := 647) dL_law_32 (by decide) (by decide) (off := 615) rfl (by decide) ?_
        exact arm_15 C cI cO h hw b L xs hX hL a hm i B ns nk t Z d u v (by omega) hI hc hRC hRM (by omega) tail
