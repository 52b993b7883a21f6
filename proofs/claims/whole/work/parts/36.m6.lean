theorem sumI_add (f g : Nat → Int32) : ∀ n, sumI (fun i => f i + g i) n = sumI f n + sumI g n
  | 0 => by show (0 : Int32) = 0 + 0; decide
  | n + 1 => by
    rw [sumI, sumI, sumI, sumI_add f g n]
    rw [Int32.add_assoc, Int32.add_assoc]
    congr 1
    rw [← Int32.add_assoc, ← Int32.add_assoc, Int32.add_comm (sumI g n)]
theorem sumI_0 : ∀ n, sumI (fun _ => 0) n = 0
  | 0 => rfl
  | n + 1 => by rw [sumI, sumI_0 n]; decide
theorem sumI_one (s0 : Nat) : ∀ n, sumI (fun s => if s = s0 then 1 else 0) n = if s0 < n then 1 else 0
  | 0 => by rw [if_neg (by omega)]; rfl
  | n + 1 => by
    rw [sumI, sumI_one s0 n]
    by_cases h : n = s0
    · subst h
      rw [if_neg (by omega), if_pos rfl, if_pos (by omega)]
      decide
    · rw [if_neg h, Int32.add_zero]
      by_cases q : s0 < n
      · rw [if_pos q, if_pos (by omega)]
      · rw [if_neg q, if_neg (by omega)]
theorem wait_sum {ns nk : Nat} {Z : Sg} (hn : ns ≤ 8) (k : Int32) : ∀ L : List E5, (∀ e ∈ L, okA ns nk Z e) → sumI (fun s => nI (L.countP (fitB (nI s) (-1) 2 k))) ns = nI (L.countP (fitB (-1) (-1) 2 k))
  | [], _ => by
    show sumI (fun _ => nI 0) ns = nI 0
    exact sumI_0 ns
  | e :: L, h => by
    have ih := wait_sum hn k L (fun x hx => h x (List.mem_cons_of_mem _ hx))
    obtain ⟨s0, k0, a1, a2, a3, a4, a5⟩ := h e List.mem_cons_self
    have h1 : sumI (fun s => nI ((e :: L).countP (fitB (nI s) (-1) 2 k))) ns = sumI (fun s => nI (L.countP (fitB (nI s) (-1) 2 k)) + (if fitB (nI s) (-1) 2 k e = true then 1 else 0)) ns := sumI_cong (fun s hs => by
      rw [List.countP_cons]
      by_cases q : fitB (nI s) (-1) 2 k e = true
      · rw [if_pos q, if_pos q]
        exact (nI_1 _).symm
      · rw [if_neg q, if_neg q, Nat.add_zero, Int32.add_zero])
    rw [h1, sumI_add, ih, List.countP_cons]
    by_cases q : fitB (-1) (-1) 2 k e = true
    · have h2 : sumI (fun s => if fitB (nI s) (-1) 2 k e = true then (1 : Int32) else 0) ns = sumI (fun s => if s = s0 then 1 else 0) ns := sumI_cong (fun s hs => by
        have q2 := of_decide_eq_true q
        by_cases z : s = s0
        · subst z
          rw [if_pos rfl, if_pos (show fitB (nI s) (-1) 2 k e = true from decide_eq_true ⟨Or.inr a3, q2.2⟩)]
        · rw [if_neg z, if_neg (fun y => by
            have y2 := (of_decide_eq_true y).1.resolve_left (nI_nm1 (by omega))
            exact z ((nI_eq (by omega) (by omega)).mp (y2.symm.trans a3)))])
      rw [h2, sumI_one, if_pos a1, if_pos q]
      exact nI_1 _
    · have h2 : sumI (fun s => if fitB (nI s) (-1) 2 k e = true then (1 : Int32) else 0) ns = sumI (fun _ => 0) ns := sumI_cong (fun s hs => by
        rw [if_neg (fun y => q (decide_eq_true ⟨Or.inl rfl, (of_decide_eq_true y).2⟩))])
      rw [h2, sumI_0, if_neg q, Nat.add_zero, Int32.add_zero]
theorem nth_none (p : E5 → Bool) : ∀ (L : List E5) (left : Int32), L.length ≤ left.toBitVec.toNat → nth p L left = none
  | [], _, _ => rfl
  | e :: r, left, h => by
    have h9 : r.length + 1 ≤ left.toBitVec.toNat := h
    rw [nth]
    have h1 : ¬ left = 0 := fun q => by
      rw [q] at h9
      have : (0 : Int32).toBitVec.toNat = 0 := by decide
      omega
    have h2 : (left + (-1)).toBitVec.toNat = left.toBitVec.toNat - 1 := by
      have h3 : (left + (-1)).toBitVec = left.toBitVec + (-1 : Int32).toBitVec := rfl
      rw [h3, BitVec.toNat_add]
      have h4 : (-1 : Int32).toBitVec.toNat = 4294967295 := by decide
      have h5 := left.toBitVec.isLt
      rw [h4]
      omega
    cases hp : p e with
    | true =>
      rw [if_pos rfl, if_neg h1]
      exact nth_none p r _ (by rw [h2]; omega)
    | false =>
      rw [if_neg (by decide)]
      exact nth_none p r _ (by omega)
theorem neg_big {x : Int32} (h : x < 0) : 2147483648 ≤ x.toBitVec.toNat := by
  rw [Int32.lt_iff_toInt_lt, show (0 : Int32).toInt = 0 by decide] at h
  have h1 : x.toBitVec.toInt < 0 := h
  rw [BitVec.toInt_eq_toNat_cond] at h1
  split at h1
  · omega
  · omega
theorem nth_drop {p : E5 → Bool} {L : List E5} {i : Nat} {e : E5} (hi : L[i]? = some e) (left : Int32) : nth p (L.drop i) left = if p e then (if left = 0 then some e else nth p (L.drop (i + 1)) (left + (-1))) else nth p (L.drop (i + 1)) left := by
  obtain ⟨h2, h3⟩ := List.getElem?_eq_some_iff.mp hi
  rw [List.drop_eq_getElem_cons h2, h3, nth]
theorem fit2b {s k : Nat} (hs : s < 2 ^ 31) (hk : k < 2 ^ 31) (e : E5) : fitB (nI s) (nI k) (-1) (-1) e = decide (col 0 e = nI s ∧ col 1 e = nI k) := congrFun (fit2 s k hs hk) e

theorem iX4_about_4 : ∀ w ∈ wsX40, w ∈ wsX4_about := by decide +kernel
theorem fX4_about_38 : Cond.fieldLink RX4 38 "SpareShelvesModel" "good" "[I" ∈ wsX4_about := by decide +kernel
set_option maxHeartbeats 4000000 in
set_option maxRecDepth 100000 in
theorem m_about (l : Launch) (D : va_G) (cI cO : ClassId) (a : Nat → Nat) (v : MX) (Z : Sg) (d : Dy) (hRM : RM d v) (ns nk : Nat) (hz : Zv ns nk Z)  (hlA : d.2.1.length ≤ 5900) (hlU : d.2.2.1.length ≤ 5900) (x y wh : Int32) : CRm l yX4_about wsX4_about 2 50 D cI cO a v Z d [.int x, .int y, .int wh] (aboutP ns nk d x y wh) := by
  unfold CRm
  refine CR.of (cc := cX4_about) (maxL := 4) (rt := .int) (by decide) rfl (Nat.le_of_ble_eq_true rfl) ?_
  intro C hgL hgD h hret
  have hn8 := hz.n8
  have hk8 := hz.k8
  refine g_aload_n h (pc := 0) dX4_about_0 0 rfl ?_
  refine g_iload_n h (pc := 1) dX4_about_1 1 rfl ?_
  refine g_callR h (pc := 2) (As := [.int x]) (st := []) dX4_about_2 (m_isS (gL C) (gD C) cI cO a v Z d hRM ns nk hz x) [0, 1, 2, 3, 4, 5, 6, 7, 8, 9, 10, 11, 12, 13, 14, 15, 16, 17, 18, 19, 20, 21, 22, 23, 24] rfl (by decide) gX4_about_X4_isShelf rfl (q0 := 0) rfl rfl (show nPar yX4_isShelf RX4 1 = true by decide +kernel) ⟨Nat.le_of_ble_eq_true rfl, Nat.le_of_ble_eq_true rfl⟩ rfl (Nat.le_of_ble_eq_true rfl) ⟨Nat.zero_le _, Nat.zero_le _⟩ (fun r hr => ?_)
  subst hr
  cases hp1 : isIn x ns with
  | false =>
    refine g_topi (y := 0) rfl ?_
    refine g_if_eq_t h (pc := 5) (tgt := 16) dX4_about_5 (by decide) rfl ?_
    have hp : (isIn x ns && isIn y nk) = false := by rw [hp1]; rfl
    refine g_iconst h (pc := 16) (v := (-1)) dX4_about_16 (by decide) ?_
    exact hret _ dX4_about_17 rfl (by unfold aboutP; rw [if_pos hp])
  | true =>
    refine g_topi (y := 1) rfl ?_
    refine g_if_eq_f h (pc := 5) (tgt := 16) dX4_about_5 (by decide) (by decide) ?_
    refine g_aload_n h (pc := 8) dX4_about_8 0 rfl ?_
    refine g_iload_n h (pc := 9) dX4_about_9 2 rfl ?_
    refine g_callR h (pc := 10) (As := [.int y]) (st := []) dX4_about_10 (m_isK (gL C) (gD C) cI cO a v Z d hRM ns nk hz y) [0, 1, 2, 3, 4, 5, 6, 7, 8, 9, 10, 11, 12, 13, 14, 15, 16, 17, 18, 19, 20, 21, 22, 23, 24] rfl (by decide) gX4_about_X4_isKind rfl (q0 := 0) rfl rfl (show nPar yX4_isKind RX4 1 = true by decide +kernel) ⟨Nat.le_of_ble_eq_true rfl, Nat.le_of_ble_eq_true rfl⟩ rfl (Nat.le_of_ble_eq_true rfl) ⟨Nat.zero_le _, Nat.zero_le _⟩ (fun r hr => ?_)
    subst hr
    cases hp2 : isIn y nk with
    | false =>
      refine g_topi (y := 0) rfl ?_
      refine g_if_ne_f h (pc := 13) (tgt := 18) dX4_about_13 (by decide) rfl ?_
      have hp : (isIn x ns && isIn y nk) = false := by rw [hp1, hp2]; rfl
      refine g_iconst h (pc := 16) (v := (-1)) dX4_about_16 (by decide) ?_
      exact hret _ dX4_about_17 rfl (by unfold aboutP; rw [if_pos hp])
    | true =>
      refine g_topi (y := 1) rfl ?_
      refine g_if_ne_t h (pc := 13) (tgt := 18) dX4_about_13 (by decide) (by decide) ?_
      have hp : (isIn x ns && isIn y nk) = true := by rw [hp1, hp2]; rfl
      obtain ⟨s, hs, rfl⟩ := isIn_of (by omega) hp1
      obtain ⟨k, hk, rfl⟩ := isIn_of (by omega) hp2
      have ts : tN (nI s) = s := nI_clamp (by omega)
      have tk : tN (nI k) = k := nI_clamp (by omega)
      refine g_iload_n h (pc := 18) dX4_about_18 3 rfl ?_
      have e0 : ∀ q, aboutP ns nk d (nI s) (nI k) q = sw q [d.1 7 s k, nI (d.2.1.countP (fitB (nI s) (nI k) (-1) (-1))), nI (d.2.1.countP (fitB (nI s) (nI k) 0 (-1))), nI (d.2.2.1.countP (duc (nI s) (nI k) 1)), nI (d.2.1.countP (fitB (nI s) (-1) 2 (nI k))), nI (d.2.2.1.countP (duc (nI s) (nI k) 0)), nI (d.2.2.1.countP (duc (nI s) (nI k) 3)), nI (d.2.2.1.countP (duc (nI s) (nI k) 2))] := by
        intro q
        unfold aboutP
        rw [hp, if_neg (by decide), ts, tk]
      cases hsw : isIn wh 8 with
      | false =>
        refine g_tblOut h (pc := 19) (tgt := 131) dX4_about_19 (isIn_out hsw rfl) (by decide) ?_
        refine g_iconst h (pc := 131) (v := (-1)) dX4_about_131 (by decide) ?_
        exact hret _ dX4_about_132 rfl (by rw [e0]; exact (sw_out hsw).symm)
      | true =>
        obtain ⟨j9, hj9, rfl⟩ := isIn_of (by omega) hsw
        rcases (show j9 = 0 ∨ j9 = 1 ∨ j9 = 2 ∨ j9 = 3 ∨ j9 = 4 ∨ j9 = 5 ∨ j9 = 6 ∨ j9 = 7 by omega) with rfl | rfl | rfl | rfl | rfl | rfl | rfl | rfl
        · refine g_tblIn h (pc := 19) (tgt := 64) dX4_about_19 (by decide) (by decide) (off := 45) (by decide) (by decide) ?_
          refine g_aload_n h (pc := 64) dX4_about_64 0 rfl ?_
          refine g_get h (pc := 65) dX4_about_65 iX4_about_4 0 rfl rfl 10 (by decide) fX4_about_38 rfl ?_
          refine g_bipush h (pc := 68) (v := 8) dX4_about_68 (by decide) ?_
          refine g_iload_n h (pc := 70) dX4_about_70 1 rfl ?_
          refine g_imul h (pc := 71) dX4_about_71  ?_
          refine g_iload_n h (pc := 72) dX4_about_72 2 rfl ?_
          refine g_iadd h (pc := 73) dX4_about_73  ?_
          refine g_topi (nI_83 s k) ?_
          refine g_iald h (pc := 74) (v := d.1 7 s k) dX4_about_74 8 rfl (vp_in_nI (by omega) (by omega)) (by rw [nI_clamp (by omega)]; exact fl2_at _ (by omega)) ?_
          exact hret _ dX4_about_75 rfl (by rw [e0]; exact (sw_in (j := 0) (Nat.le_of_ble_eq_true rfl) (Nat.le_of_ble_eq_true rfl) rfl).symm)
        · refine g_tblIn h (pc := 19) (tgt := 76) dX4_about_19 (by decide) (by decide) (off := 57) (by decide) (by decide) ?_
          refine g_aload_n h (pc := 76) dX4_about_76 0 rfl ?_
          refine g_iload_n h (pc := 77) dX4_about_77 1 rfl ?_
          refine g_iload_n h (pc := 78) dX4_about_78 2 rfl ?_
          refine g_iconst h (pc := 79) (v := (-1)) dX4_about_79 (by decide) ?_
          refine g_callR h (pc := 80) (As := [.int (nI s), .int (nI k), .int (-1)]) (st := []) dX4_about_80 (m_asksOf (gL C) (gD C) cI cO a v Z d hRM ns nk hz hlA s k hs hk (-1)) [0, 1, 2, 3, 4, 5, 6, 7, 8, 9, 10, 11, 12, 13, 14, 15, 16, 17, 18, 19, 20, 21, 22, 23, 24] rfl (by decide) gX4_about_X4_asksOf rfl (q0 := 0) rfl rfl (show nPar yX4_asksOf RX4 3 = true by decide +kernel) ⟨Nat.le_of_ble_eq_true rfl, Nat.le_of_ble_eq_true rfl⟩ rfl (Nat.le_of_ble_eq_true rfl) ⟨Nat.zero_le _, Nat.zero_le _⟩ (fun r hr => ?_)
          subst hr
          exact hret _ dX4_about_83 rfl (by rw [e0]; exact (sw_in (j := 1) (Nat.le_of_ble_eq_true rfl) (Nat.le_of_ble_eq_true rfl) rfl).symm)
        · refine g_tblIn h (pc := 19) (tgt := 84) dX4_about_19 (by decide) (by decide) (off := 65) (by decide) (by decide) ?_
          refine g_aload_n h (pc := 84) dX4_about_84 0 rfl ?_
          refine g_iload_n h (pc := 85) dX4_about_85 1 rfl ?_
          refine g_iload_n h (pc := 86) dX4_about_86 2 rfl ?_
          refine g_iconst h (pc := 87) (v := 0) dX4_about_87 (by decide) ?_
          refine g_callR h (pc := 88) (As := [.int (nI s), .int (nI k), .int 0]) (st := []) dX4_about_88 (m_asksOf (gL C) (gD C) cI cO a v Z d hRM ns nk hz hlA s k hs hk 0) [0, 1, 2, 3, 4, 5, 6, 7, 8, 9, 10, 11, 12, 13, 14, 15, 16, 17, 18, 19, 20, 21, 22, 23, 24] rfl (by decide) gX4_about_X4_asksOf rfl (q0 := 0) rfl rfl (show nPar yX4_asksOf RX4 3 = true by decide +kernel) ⟨Nat.le_of_ble_eq_true rfl, Nat.le_of_ble_eq_true rfl⟩ rfl (Nat.le_of_ble_eq_true rfl) ⟨Nat.zero_le _, Nat.zero_le _⟩ (fun r hr => ?_)
          subst hr
          exact hret _ dX4_about_91 rfl (by rw [e0]; exact (sw_in (j := 2) (Nat.le_of_ble_eq_true rfl) (Nat.le_of_ble_eq_true rfl) rfl).symm)
        · refine g_tblIn h (pc := 19) (tgt := 92) dX4_about_19 (by decide) (by decide) (off := 73) (by decide) (by decide) ?_
          refine g_aload_n h (pc := 92) dX4_about_92 0 rfl ?_
          refine g_iload_n h (pc := 93) dX4_about_93 1 rfl ?_
          refine g_iload_n h (pc := 94) dX4_about_94 2 rfl ?_
          refine g_iconst h (pc := 95) (v := 1) dX4_about_95 (by decide) ?_
          refine g_callR h (pc := 96) (As := [.int (nI s), .int (nI k), .int 1]) (st := []) dX4_about_96 (m_duesOf (gL C) (gD C) cI cO a v Z d hRM ns nk hz hlU (nI s) k hk 1) [0, 1, 2, 3, 4, 5, 6, 7, 8, 9, 10, 11, 12, 13, 14, 15, 16, 17, 18, 19, 20, 21, 22, 23, 24] rfl (by decide) gX4_about_X4_duesOf rfl (q0 := 0) rfl rfl (show nPar yX4_duesOf RX4 3 = true by decide +kernel) ⟨Nat.le_of_ble_eq_true rfl, Nat.le_of_ble_eq_true rfl⟩ rfl (Nat.le_of_ble_eq_true rfl) ⟨Nat.zero_le _, Nat.zero_le _⟩ (fun r hr => ?_)
          subst hr
          exact hret _ dX4_about_99 rfl (by rw [e0]; exact (sw_in (j := 3) (Nat.le_of_ble_eq_true rfl) (Nat.le_of_ble_eq_true rfl) rfl).symm)
        · refine g_tblIn h (pc := 19) (tgt := 100) dX4_about_19 (by decide) (by decide) (off := 81) (by decide) (by decide) ?_
          refine g_aload_n h (pc := 100) dX4_about_100 0 rfl ?_
          refine g_iload_n h (pc := 101) dX4_about_101 1 rfl ?_
          refine g_iload_n h (pc := 102) dX4_about_102 2 rfl ?_
          refine g_callR h (pc := 103) (As := [.int (nI s), .int (nI k)]) (st := []) dX4_about_103 (m_wait (gL C) (gD C) cI cO a v Z d hRM ns nk hz hlA s k hs hk) [0, 1, 2, 3, 4, 5, 6, 7, 8, 9, 10, 11, 12, 13, 14, 15, 16, 17, 18, 19, 20, 21, 22, 23, 24] rfl (by decide) gX4_about_X4_waiting rfl (q0 := 0) rfl rfl (show nPar yX4_waiting RX4 2 = true by decide +kernel) ⟨Nat.le_of_ble_eq_true rfl, Nat.le_of_ble_eq_true rfl⟩ rfl (Nat.le_of_ble_eq_true rfl) ⟨Nat.zero_le _, Nat.zero_le _⟩ (fun r hr => ?_)
          subst hr
          exact hret _ dX4_about_106 rfl (by rw [e0]; exact (sw_in (j := 4) (Nat.le_of_ble_eq_true rfl) (Nat.le_of_ble_eq_true rfl) rfl).symm)
        · refine g_tblIn h (pc := 19) (tgt := 107) dX4_about_19 (by decide) (by decide) (off := 88) (by decide) (by decide) ?_
          refine g_aload_n h (pc := 107) dX4_about_107 0 rfl ?_
          refine g_iload_n h (pc := 108) dX4_about_108 1 rfl ?_
          refine g_iload_n h (pc := 109) dX4_about_109 2 rfl ?_
          refine g_iconst h (pc := 110) (v := 0) dX4_about_110 (by decide) ?_
          refine g_callR h (pc := 111) (As := [.int (nI s), .int (nI k), .int 0]) (st := []) dX4_about_111 (m_duesOf (gL C) (gD C) cI cO a v Z d hRM ns nk hz hlU (nI s) k hk 0) [0, 1, 2, 3, 4, 5, 6, 7, 8, 9, 10, 11, 12, 13, 14, 15, 16, 17, 18, 19, 20, 21, 22, 23, 24] rfl (by decide) gX4_about_X4_duesOf rfl (q0 := 0) rfl rfl (show nPar yX4_duesOf RX4 3 = true by decide +kernel) ⟨Nat.le_of_ble_eq_true rfl, Nat.le_of_ble_eq_true rfl⟩ rfl (Nat.le_of_ble_eq_true rfl) ⟨Nat.zero_le _, Nat.zero_le _⟩ (fun r hr => ?_)
          subst hr
          exact hret _ dX4_about_114 rfl (by rw [e0]; exact (sw_in (j := 5) (Nat.le_of_ble_eq_true rfl) (Nat.le_of_ble_eq_true rfl) rfl).symm)
        · refine g_tblIn h (pc := 19) (tgt := 115) dX4_about_19 (by decide) (by decide) (off := 96) (by decide) (by decide) ?_
          refine g_aload_n h (pc := 115) dX4_about_115 0 rfl ?_
          refine g_iload_n h (pc := 116) dX4_about_116 1 rfl ?_
          refine g_iload_n h (pc := 117) dX4_about_117 2 rfl ?_
          refine g_iconst h (pc := 118) (v := 3) dX4_about_118 (by decide) ?_
          refine g_callR h (pc := 119) (As := [.int (nI s), .int (nI k), .int 3]) (st := []) dX4_about_119 (m_duesOf (gL C) (gD C) cI cO a v Z d hRM ns nk hz hlU (nI s) k hk 3) [0, 1, 2, 3, 4, 5, 6, 7, 8, 9, 10, 11, 12, 13, 14, 15, 16, 17, 18, 19, 20, 21, 22, 23, 24] rfl (by decide) gX4_about_X4_duesOf rfl (q0 := 0) rfl rfl (show nPar yX4_duesOf RX4 3 = true by decide +kernel) ⟨Nat.le_of_ble_eq_true rfl, Nat.le_of_ble_eq_true rfl⟩ rfl (Nat.le_of_ble_eq_true rfl) ⟨Nat.zero_le _, Nat.zero_le _⟩ (fun r hr => ?_)
          subst hr
          exact hret _ dX4_about_122 rfl (by rw [e0]; exact (sw_in (j := 6) (Nat.le_of_ble_eq_true rfl) (Nat.le_of_ble_eq_true rfl) rfl).symm)
        · refine g_tblIn h (pc := 19) (tgt := 123) dX4_about_19 (by decide) (by decide) (off := 104) (by decide) (by decide) ?_
          refine g_aload_n h (pc := 123) dX4_about_123 0 rfl ?_
          refine g_iload_n h (pc := 124) dX4_about_124 1 rfl ?_
          refine g_iload_n h (pc := 125) dX4_about_125 2 rfl ?_
          refine g_iconst h (pc := 126) (v := 2) dX4_about_126 (by decide) ?_
          refine g_callR h (pc := 127) (As := [.int (nI s), .int (nI k), .int 2]) (st := []) dX4_about_127 (m_duesOf (gL C) (gD C) cI cO a v Z d hRM ns nk hz hlU (nI s) k hk 2) [0, 1, 2, 3, 4, 5, 6, 7, 8, 9, 10, 11, 12, 13, 14, 15, 16, 17, 18, 19, 20, 21, 22, 23, 24] rfl (by decide) gX4_about_X4_duesOf rfl (q0 := 0) rfl rfl (show nPar yX4_duesOf RX4 3 = true by decide +kernel) ⟨Nat.le_of_ble_eq_true rfl, Nat.le_of_ble_eq_true rfl⟩ rfl (Nat.le_of_ble_eq_true rfl) ⟨Nat.zero_le _, Nat.zero_le _⟩ (fun r hr => ?_)
          subst hr
          exact hret _ dX4_about_130 rfl (by rw [e0]; exact (sw_in (j := 7) (Nat.le_of_ble_eq_true rfl) (Nat.le_of_ble_eq_true rfl) rfl).symm)

set_option maxHeartbeats 4000000 in
set_option maxRecDepth 100000 in
theorem m_menderP (l : Launch) (D : va_G) (cI cO : ClassId) (a : Nat → Nat) (v : MX) (Z : Sg) (d : Dy) (hRM : RM d v) (ns nk : Nat) (hz : Zv ns nk Z) (x y : Int32) : CRm l yX4_mender wsX4_mender 2 50 D cI cO a v Z d [.int x, .int y] (menderP ns nk Z x y) := by
  unfold CRm
  refine CR.of (cc := cX4_mender) (maxL := 3) (rt := .int) (by decide) rfl (Nat.le_of_ble_eq_true rfl) ?_
  intro C hgL hgD h hret
  have hn8 := hz.n8
  have hk8 := hz.k8
  refine g_aload_n h (pc := 0) dX4_mender_0 0 rfl ?_
  refine g_iload_n h (pc := 1) dX4_mender_1 1 rfl ?_
  refine g_callR h (pc := 2) (As := [.int x]) (st := []) dX4_mender_2 (m_isS (gL C) (gD C) cI cO a v Z d hRM ns nk hz x) [0, 1, 2, 3, 4, 5, 6, 7, 8, 9, 10, 11, 12, 13, 14, 15, 16, 17, 18, 19, 20, 21, 22, 23, 24] rfl (by decide) gX4_mender_X4_isShelf rfl (q0 := 0) rfl rfl (show nPar yX4_isShelf RX4 1 = true by decide +kernel) ⟨Nat.le_of_ble_eq_true rfl, Nat.le_of_ble_eq_true rfl⟩ rfl (Nat.le_of_ble_eq_true rfl) ⟨Nat.zero_le _, Nat.zero_le _⟩ (fun r hr => ?_)
  subst hr
  cases hp1 : isIn x ns with
  | false =>
    refine g_topi (y := 0) rfl ?_
    refine g_if_eq_t h (pc := 5) (tgt := 25) dX4_mender_5 (by decide) rfl ?_
    have hp : (isIn x ns && isIn y nk) = false := by rw [hp1]; rfl
    refine g_iconst h (pc := 25) (v := (-1)) dX4_mender_25 (by decide) ?_
    exact hret _ dX4_mender_26 rfl (by unfold menderP; rw [if_pos hp])
  | true =>
    refine g_topi (y := 1) rfl ?_
    refine g_if_eq_f h (pc := 5) (tgt := 25) dX4_mender_5 (by decide) (by decide) ?_
    refine g_aload_n h (pc := 8) dX4_mender_8 0 rfl ?_
    refine g_iload_n h (pc := 9) dX4_mender_9 2 rfl ?_
    refine g_callR h (pc := 10) (As := [.int y]) (st := []) dX4_mender_10 (m_isK (gL C) (gD C) cI cO a v Z d hRM ns nk hz y) [0, 1, 2, 3, 4, 5, 6, 7, 8, 9, 10, 11, 12, 13, 14, 15, 16, 17, 18, 19, 20, 21, 22, 23, 24] rfl (by decide) gX4_mender_X4_isKind rfl (q0 := 0) rfl rfl (show nPar yX4_isKind RX4 1 = true by decide +kernel) ⟨Nat.le_of_ble_eq_true rfl, Nat.le_of_ble_eq_true rfl⟩ rfl (Nat.le_of_ble_eq_true rfl) ⟨Nat.zero_le _, Nat.zero_le _⟩ (fun r hr => ?_)
    subst hr
    cases hp2 : isIn y nk with
    | false =>
      refine g_topi (y := 0) rfl ?_
      refine g_if_eq_t h (pc := 13) (tgt := 25) dX4_mender_13 (by decide) rfl ?_
      have hp : (isIn x ns && isIn y nk) = false := by rw [hp1, hp2]; rfl
      refine g_iconst h (pc := 25) (v := (-1)) dX4_mender_25 (by decide) ?_
      exact hret _ dX4_mender_26 rfl (by unfold menderP; rw [if_pos hp])
    | true =>
      refine g_topi (y := 1) rfl ?_
      refine g_if_eq_f h (pc := 13) (tgt := 25) dX4_mender_13 (by decide) (by decide) ?_
      have hp : (isIn x ns && isIn y nk) = true := by rw [hp1, hp2]; rfl
      obtain ⟨s, hs, rfl⟩ := isIn_of (by omega) hp1
      obtain ⟨k, hk, rfl⟩ := isIn_of (by omega) hp2
      have ts : tN (nI s) = s := nI_clamp (by omega)
      have tk : tN (nI k) = k := nI_clamp (by omega)
      refine g_aload_n h (pc := 16) dX4_mender_16 0 rfl ?_
      refine g_iload_n h (pc := 17) dX4_mender_17 1 rfl ?_
      refine g_iload_n h (pc := 18) dX4_mender_18 2 rfl ?_
      refine g_callR h (pc := 19) (As := [.int (nI s), .int (nI k)]) (st := []) dX4_mender_19 (m_mender (gL C) (gD C) cI cO a v Z d hRM ns nk hz s k hs hk) [0, 1, 2, 3, 4, 5, 6, 7, 8, 9, 10, 11, 12, 13, 14, 15, 16, 17, 18, 19, 20, 21, 22, 23, 24] rfl (by decide) gX4_mender_X4_menderOf rfl (q0 := 0) rfl rfl (show nPar yX4_menderOf RX4 2 = true by decide +kernel) ⟨Nat.le_of_ble_eq_true rfl, Nat.le_of_ble_eq_true rfl⟩ rfl (Nat.le_of_ble_eq_true rfl) ⟨Nat.zero_le _, Nat.zero_le _⟩ (fun r hr => ?_)
      subst hr
      refine g_goto h (pc := 22) (tgt := 26) dX4_mender_22 (by decide) ?_
      exact hret _ dX4_mender_26 rfl (by unfold menderP; rw [hp, if_neg (by decide), ts, tk])

theorem iX4_worth_4 : ∀ w ∈ wsX40, w ∈ wsX4_worth := by decide +kernel
theorem fX4_worth_89 : Cond.fieldLink RX4 89 "SpareShelvesModel" "kinds" "I" ∈ wsX4_worth := by decide +kernel
theorem fX4_worth_13 : Cond.fieldLink RX4 13 "SpareShelvesModel" "price" "[I" ∈ wsX4_worth := by decide +kernel
theorem fX4_worth_44 : Cond.fieldLink RX4 44 "SpareShelvesModel" "bought" "[I" ∈ wsX4_worth := by decide +kernel
theorem fX4_worth_47 : Cond.fieldLink RX4 47 "SpareShelvesModel" "scrapped" "[I" ∈ wsX4_worth := by decide +kernel
set_option maxHeartbeats 4000000 in
set_option maxRecDepth 100000 in
theorem m_worth (l : Launch) (D : va_G) (cI cO : ClassId) (a : Nat → Nat) (v : MX) (Z : Sg) (d : Dy) (hRM : RM d v) (ns nk : Nat) (hz : Zv ns nk Z)  : CRm l yX4_worth wsX4_worth 0 0 D cI cO a v Z d [] (worthP nk Z d) := by
  unfold CRm
  refine CR.of (cc := cX4_worth) (maxL := 3) (rt := .int) (by decide) rfl (Nat.le_of_ble_eq_true rfl) ?_
  intro C hgL hgD h hret
  have hn8 := hz.n8
  have hk8 := hz.k8
  refine g_iconst h (pc := 0) (v := 0) dX4_worth_0 (by decide) ?_
  refine g_istore_n h (pc := 1) dX4_worth_1 (by decide) rfl ?_
  refine g_iconst h (pc := 2) (v := 0) dX4_worth_2 (by decide) ?_
  refine g_istore_n h (pc := 3) dX4_worth_3 (by decide) rfl ?_
  suffices loop : ∀ (m i : Nat), i + m = nk → GG C 3 (mwd cI a v Z d) 0 0 4 [(0, .ref (a 0)), (1, .int (sumI (fun k => Z 0 0 k * (d.1 9 0 k - d.1 10 0 k)) i)), (2, .int (nI i))] [] from loop nk 0 (by omega)
  intro m
  induction m with
  | zero =>
    intro i h1
    refine g_iload_n h (pc := 4) dX4_worth_4 2 rfl ?_
    refine g_aload_n h (pc := 5) dX4_worth_5 0 rfl ?_
    refine g_get h (pc := 6) dX4_worth_6 iX4_worth_4 0 rfl rfl 1 (by decide) fX4_worth_89 rfl ?_
    refine g_topi hz.nk ?_
    refine g_icmp_ge_t h (pc := 9) (tgt := 41) dX4_worth_9 (by decide) (nI_le (by omega) (by omega)) ?_
    refine g_iload_n h (pc := 41) dX4_worth_41 1 rfl ?_
    rw [show i = nk by omega]
    exact hret _ dX4_worth_42 rfl rfl
  | succ m ih =>
    intro i h1
    refine g_iload_n h (pc := 4) dX4_worth_4 2 rfl ?_
    refine g_aload_n h (pc := 5) dX4_worth_5 0 rfl ?_
    refine g_get h (pc := 6) dX4_worth_6 iX4_worth_4 0 rfl rfl 1 (by decide) fX4_worth_89 rfl ?_
    refine g_topi hz.nk ?_
    refine g_icmp_ge_f h (pc := 9) (tgt := 41) dX4_worth_9 (by decide) (nI_ge (by omega) (by omega)) ?_
    refine g_iload_n h (pc := 12) dX4_worth_12 1 rfl ?_
    refine g_aload_n h (pc := 13) dX4_worth_13 0 rfl ?_
    refine g_get h (pc := 14) dX4_worth_14 iX4_worth_4 0 rfl rfl 2 (by decide) fX4_worth_13 rfl ?_
    refine g_iload_n h (pc := 17) dX4_worth_17 2 rfl ?_
    refine g_iald h (pc := 18) (v := Z 0 0 i) dX4_worth_18 1 rfl (vp_in_nI (by omega) (by omega)) (by rw [nI_clamp (by omega)]) ?_
    refine g_aload_n h (pc := 19) dX4_worth_19 0 rfl ?_
    refine g_get h (pc := 20) dX4_worth_20 iX4_worth_4 0 rfl rfl 13 (by decide) fX4_worth_44 rfl ?_
    refine g_iload_n h (pc := 23) dX4_worth_23 2 rfl ?_
    refine g_iald h (pc := 24) (v := d.1 9 0 i) dX4_worth_24 10 rfl (vp_in_nI (by omega) (by omega)) (by rw [nI_clamp (by omega)]) ?_
    refine g_aload_n h (pc := 25) dX4_worth_25 0 rfl ?_
    refine g_get h (pc := 26) dX4_worth_26 iX4_worth_4 0 rfl rfl 14 (by decide) fX4_worth_47 rfl ?_
    refine g_iload_n h (pc := 29) dX4_worth_29 2 rfl ?_
    refine g_iald h (pc := 30) (v := d.1 10 0 i) dX4_worth_30 11 rfl (vp_in_nI (by omega) (by omega)) (by rw [nI_clamp (by omega)]) ?_
    refine g_isub h (pc := 31) dX4_worth_31  ?_
    refine g_imul h (pc := 32) dX4_worth_32  ?_
    refine g_iadd h (pc := 33) dX4_worth_33  ?_
    refine g_istore_n h (pc := 34) dX4_worth_34 (by decide) rfl ?_
    refine g_iinc h (pc := 35) dX4_worth_35 2 rfl (nI_1 i) (by decide) rfl ?_
    refine g_goto h (pc := 38) (tgt := 4) dX4_worth_38 (by decide) ?_
    exact ih (i + 1) (by omega)

theorem iX4_count_4 : ∀ w ∈ wsX40, w ∈ wsX4_count := by decide +kernel
theorem fX4_count_89 : Cond.fieldLink RX4 89 "SpareShelvesModel" "kinds" "I" ∈ wsX4_count := by decide +kernel
theorem fX4_count_23 : Cond.fieldLink RX4 23 "SpareShelvesModel" "shelves" "I" ∈ wsX4_count := by decide +kernel
theorem fX4_count_116 : Cond.fieldLink RX4 116 "SpareShelvesModel" "time" "I" ∈ wsX4_count := by decide +kernel
theorem fX4_count_110 : Cond.fieldLink RX4 110 "SpareShelvesModel" "asks" "I" ∈ wsX4_count := by decide +kernel
theorem fX4_count_113 : Cond.fieldLink RX4 113 "SpareShelvesModel" "dues" "I" ∈ wsX4_count := by decide +kernel
theorem fX4_count_32 : Cond.fieldLink RX4 32 "SpareShelvesModel" "stood" "[I" ∈ wsX4_count := by decide +kernel
set_option maxHeartbeats 4000000 in
set_option maxRecDepth 100000 in
theorem m_count (l : Launch) (D : va_G) (cI cO : ClassId) (a : Nat → Nat) (v : MX) (Z : Sg) (d : Dy) (hRM : RM d v) (ns nk : Nat) (hz : Zv ns nk Z)  (hlA : d.2.1.length ≤ 5900) (wh : Int32) : CRm l yX4_count wsX4_count 1 30 D cI cO a v Z d [.int wh] (countP9 ns nk Z d wh) := by
  unfold CRm
  refine CR.of (cc := cX4_count) (maxL := 4) (rt := .int) (by decide) rfl (Nat.le_of_ble_eq_true rfl) ?_
  intro C hgL hgD h hret
  have hn8 := hz.n8
  have hk8 := hz.k8
  refine g_iconst h (pc := 0) (v := 0) dX4_count_0 (by decide) ?_
  refine g_istore_n h (pc := 1) dX4_count_1 (by decide) rfl ?_
  refine g_iload_n h (pc := 2) dX4_count_2 1 rfl ?_
  cases hsw : isIn wh 7 with
  | false =>
    refine g_tblOut h (pc := 3) (tgt := 102) dX4_count_3 (isIn_out hsw rfl) (by decide) ?_
    refine g_iconst h (pc := 102) (v := (-1)) dX4_count_102 (by decide) ?_
    exact hret _ dX4_count_103 rfl (by exact (sw_out hsw).symm)
  | true =>
    obtain ⟨j9, hj9, rfl⟩ := isIn_of (by omega) hsw
    rcases (show j9 = 0 ∨ j9 = 1 ∨ j9 = 2 ∨ j9 = 3 ∨ j9 = 4 ∨ j9 = 5 ∨ j9 = 6 by omega) with rfl | rfl | rfl | rfl | rfl | rfl | rfl
    · refine g_tblIn h (pc := 3) (tgt := 44) dX4_count_3 (by decide) (by decide) (off := 41) (by decide) (by decide) ?_
      refine g_aload_n h (pc := 44) dX4_count_44 0 rfl ?_
      refine g_get h (pc := 45) dX4_count_45 iX4_count_4 0 rfl rfl 1 (by decide) fX4_count_89 rfl ?_
      refine g_topi hz.nk ?_
      exact hret _ dX4_count_48 rfl (by exact (sw_in (j := 0) (Nat.le_of_ble_eq_true rfl) (Nat.le_of_ble_eq_true rfl) rfl).symm)
    · refine g_tblIn h (pc := 3) (tgt := 49) dX4_count_3 (by decide) (by decide) (off := 46) (by decide) (by decide) ?_
      refine g_aload_n h (pc := 49) dX4_count_49 0 rfl ?_
      refine g_get h (pc := 50) dX4_count_50 iX4_count_4 0 rfl rfl 5 (by decide) fX4_count_23 rfl ?_
      refine g_topi hz.ns ?_
      exact hret _ dX4_count_53 rfl (by exact (sw_in (j := 1) (Nat.le_of_ble_eq_true rfl) (Nat.le_of_ble_eq_true rfl) rfl).symm)
    · refine g_tblIn h (pc := 3) (tgt := 54) dX4_count_3 (by decide) (by decide) (off := 51) (by decide) (by decide) ?_
      refine g_aload_n h (pc := 54) dX4_count_54 0 rfl ?_
      refine g_get h (pc := 55) dX4_count_55 iX4_count_4 0 rfl rfl 12 (by decide) fX4_count_116 rfl ?_
      exact hret _ dX4_count_58 rfl (by exact (sw_in (j := 2) (Nat.le_of_ble_eq_true rfl) (Nat.le_of_ble_eq_true rfl) rfl).symm)
    · refine g_tblIn h (pc := 3) (tgt := 59) dX4_count_3 (by decide) (by decide) (off := 56) (by decide) (by decide) ?_
      refine g_aload_n h (pc := 59) dX4_count_59 0 rfl ?_
      refine g_get h (pc := 60) dX4_count_60 iX4_count_4 0 rfl rfl 18 (by decide) fX4_count_110 rfl ?_
      exact hret _ dX4_count_63 rfl (by exact (sw_in (j := 3) (Nat.le_of_ble_eq_true rfl) (Nat.le_of_ble_eq_true rfl) rfl).symm)
    · refine g_tblIn h (pc := 3) (tgt := 64) dX4_count_3 (by decide) (by decide) (off := 61) (by decide) (by decide) ?_
      refine g_aload_n h (pc := 64) dX4_count_64 0 rfl ?_
      refine g_get h (pc := 65) dX4_count_65 iX4_count_4 0 rfl rfl 24 (by decide) fX4_count_113 rfl ?_
      exact hret _ dX4_count_68 rfl (by exact (sw_in (j := 4) (Nat.le_of_ble_eq_true rfl) (Nat.le_of_ble_eq_true rfl) rfl).symm)
    · refine g_tblIn h (pc := 3) (tgt := 69) dX4_count_3 (by decide) (by decide) (off := 66) (by decide) (by decide) ?_
      refine g_aload_n h (pc := 69) dX4_count_69 0 rfl ?_
      refine g_iconst h (pc := 70) (v := (-1)) dX4_count_70 (by decide) ?_
      refine g_callR h (pc := 71) (As := [.int (-1)]) (st := []) dX4_count_71 (m_standing (gL C) (gD C) cI cO a v Z d hRM ns nk hz hlA (-1)) [0, 1, 2, 3, 4, 5, 6, 7, 8, 9, 10, 11, 12, 13, 14, 15, 16, 17, 18, 19, 20, 21, 22, 23, 24] rfl (by decide) gX4_count_X4_standing rfl (q0 := 0) rfl rfl (show nPar yX4_standing RX4 1 = true by decide +kernel) ⟨Nat.le_of_ble_eq_true rfl, Nat.le_of_ble_eq_true rfl⟩ rfl (Nat.le_of_ble_eq_true rfl) ⟨Nat.zero_le _, Nat.zero_le _⟩ (fun r hr => ?_)
      subst hr
      exact hret _ dX4_count_74 rfl (by exact (sw_in (j := 5) (Nat.le_of_ble_eq_true rfl) (Nat.le_of_ble_eq_true rfl) rfl).symm)
    · refine g_tblIn h (pc := 3) (tgt := 75) dX4_count_3 (by decide) (by decide) (off := 72) (by decide) (by decide) ?_
      refine g_iconst h (pc := 75) (v := 0) dX4_count_75 (by decide) ?_
      refine g_istore_n h (pc := 76) dX4_count_76 (by decide) rfl ?_
      suffices loop : ∀ (m i : Nat), i + m = ns → GG C 4 (mwd cI a v Z d) 0 0 77 [(0, .ref (a 0)), (1, .int (nI 6)), (2, .int (sumI (fun s => d.1 5 0 s) i)), (3, .int (nI i))] [] from loop ns 0 (by omega)
      intro m
      induction m with
      | zero =>
        intro i h1
        refine g_iload_n h (pc := 77) dX4_count_77 3 rfl ?_
        refine g_aload_n h (pc := 78) dX4_count_78 0 rfl ?_
        refine g_get h (pc := 79) dX4_count_79 iX4_count_4 0 rfl rfl 5 (by decide) fX4_count_23 rfl ?_
        refine g_topi hz.ns ?_
        refine g_icmp_ge_t h (pc := 82) (tgt := 100) dX4_count_82 (by decide) (nI_le (by omega) (by omega)) ?_
        refine g_iload_n h (pc := 100) dX4_count_100 2 rfl ?_
        rw [show i = ns by omega]
        exact hret _ dX4_count_101 rfl (by exact (sw_in (j := 6) (Nat.le_of_ble_eq_true rfl) (Nat.le_of_ble_eq_true rfl) rfl).symm)
      | succ m ih =>
        intro i h1
        refine g_iload_n h (pc := 77) dX4_count_77 3 rfl ?_
        refine g_aload_n h (pc := 78) dX4_count_78 0 rfl ?_
        refine g_get h (pc := 79) dX4_count_79 iX4_count_4 0 rfl rfl 5 (by decide) fX4_count_23 rfl ?_
        refine g_topi hz.ns ?_
        refine g_icmp_ge_f h (pc := 82) (tgt := 100) dX4_count_82 (by decide) (nI_ge (by omega) (by omega)) ?_
        refine g_iload_n h (pc := 85) dX4_count_85 2 rfl ?_
        refine g_aload_n h (pc := 86) dX4_count_86 0 rfl ?_
        refine g_get h (pc := 87) dX4_count_87 iX4_count_4 0 rfl rfl 8 (by decide) fX4_count_32 rfl ?_
        refine g_iload_n h (pc := 90) dX4_count_90 3 rfl ?_
        refine g_iald h (pc := 91) (v := d.1 5 0 i) dX4_count_91 6 rfl (vp_in_nI (by omega) (by omega)) (by rw [nI_clamp (by omega)]) ?_
        refine g_iadd h (pc := 92) dX4_count_92  ?_
        refine g_istore_n h (pc := 93) dX4_count_93 (by decide) rfl ?_
        refine g_iinc h (pc := 94) dX4_count_94 3 rfl (nI_1 i) (by decide) rfl ?_
        refine g_goto h (pc := 97) (tgt := 77) dX4_count_97 (by decide) ?_
        exact ih (i + 1) (by omega)

theorem iX4_all_4 : ∀ w ∈ wsX40, w ∈ wsX4_all := by decide +kernel
theorem fX4_all_44 : Cond.fieldLink RX4 44 "SpareShelvesModel" "bought" "[I" ∈ wsX4_all := by decide +kernel
theorem fX4_all_47 : Cond.fieldLink RX4 47 "SpareShelvesModel" "scrapped" "[I" ∈ wsX4_all := by decide +kernel
theorem fX4_all_23 : Cond.fieldLink RX4 23 "SpareShelvesModel" "shelves" "I" ∈ wsX4_all := by decide +kernel
theorem fX4_all_38 : Cond.fieldLink RX4 38 "SpareShelvesModel" "good" "[I" ∈ wsX4_all := by decide +kernel
theorem fX4_all_50 : Cond.fieldLink RX4 50 "SpareShelvesModel" "taken" "[I" ∈ wsX4_all := by decide +kernel
theorem fX4_all_53 : Cond.fieldLink RX4 53 "SpareShelvesModel" "cores" "[I" ∈ wsX4_all := by decide +kernel
theorem fX4_all_56 : Cond.fieldLink RX4 56 "SpareShelvesModel" "broke" "[I" ∈ wsX4_all := by decide +kernel
set_option maxHeartbeats 4000000 in
set_option maxRecDepth 100000 in
theorem m_all (l : Launch) (D : va_G) (cI cO : ClassId) (a : Nat → Nat) (v : MX) (Z : Sg) (d : Dy) (hRM : RM d v) (ns nk : Nat) (hz : Zv ns nk Z)  (hlA : d.2.1.length ≤ 5900) (hlU : d.2.2.1.length ≤ 5900) (hA : ∀ e ∈ d.2.1, okA ns nk Z e) (y wh : Int32) : CRm l yX4_all wsX4_all 2 50 D cI cO a v Z d [.int y, .int wh] (allP ns nk d y wh) := by
  unfold CRm
  refine CR.of (cc := cX4_all) (maxL := 5) (rt := .int) (by decide) rfl (Nat.le_of_ble_eq_true rfl) ?_
  intro C hgL hgD h hret
  have hn8 := hz.n8
  have hk8 := hz.k8
  refine g_aload_n h (pc := 0) dX4_all_0 0 rfl ?_
  refine g_iload_n h (pc := 1) dX4_all_1 1 rfl ?_
  refine g_callR h (pc := 2) (As := [.int y]) (st := []) dX4_all_2 (m_isK (gL C) (gD C) cI cO a v Z d hRM ns nk hz y) [0, 1, 2, 3, 4, 5, 6, 7, 8, 9, 10, 11, 12, 13, 14, 15, 16, 17, 18, 19, 20, 21, 22, 23, 24] rfl (by decide) gX4_all_X4_isKind rfl (q0 := 0) rfl rfl (show nPar yX4_isKind RX4 1 = true by decide +kernel) ⟨Nat.le_of_ble_eq_true rfl, Nat.le_of_ble_eq_true rfl⟩ rfl (Nat.le_of_ble_eq_true rfl) ⟨Nat.zero_le _, Nat.zero_le _⟩ (fun r hr => ?_)
  subst hr
  cases hp : isIn y nk with
  | false =>
    refine g_topi (y := 0) rfl ?_
    refine g_if_ne_f h (pc := 5) (tgt := 10) dX4_all_5 (by decide) rfl ?_
    refine g_iconst h (pc := 8) (v := (-1)) dX4_all_8 (by decide) ?_
    exact hret _ dX4_all_9 rfl (by unfold allP; rw [if_pos hp])
  | true =>
    refine g_topi (y := 1) rfl ?_
    refine g_if_ne_t h (pc := 5) (tgt := 10) dX4_all_5 (by decide) (by decide) ?_
    obtain ⟨k, hk, rfl⟩ := isIn_of (by omega) hp
    have tk : tN (nI k) = k := nI_clamp (by omega)
    refine g_iconst h (pc := 10) (v := 0) dX4_all_10 (by decide) ?_
    refine g_istore_n h (pc := 11) dX4_all_11 (by decide) rfl ?_
    refine g_iload_n h (pc := 12) dX4_all_12 2 rfl ?_
    have e0 : ∀ q, allP ns nk d (nI k) q = sw q [d.1 9 0 k, d.1 10 0 k, sumI (fun s => d.1 7 s k) ns, nI (d.2.2.1.countP (duc (-1) (nI k) 0)) + nI (d.2.2.1.countP (duc (-1) (nI k) 3)), nI (d.2.2.1.countP (duc (-1) (nI k) 1)) + nI (d.2.1.countP (fitB (-1) (-1) 2 (nI k))), nI (d.2.2.1.countP (duc (-1) (nI k) 2)), d.1 11 0 k, d.1 12 0 k, d.1 13 0 k] := by
      intro q
      unfold allP
      rw [hp, if_neg (by decide), tk]
    cases hsw : isIn wh 9 with
    | false =>
      refine g_tblOut h (pc := 13) (tgt := 196) dX4_all_13 (isIn_out hsw rfl) (by decide) ?_
      refine g_iconst h (pc := 196) (v := (-1)) dX4_all_196 (by decide) ?_
      exact hret _ dX4_all_197 rfl (by rw [e0]; exact (sw_out hsw).symm)
    | true =>
      obtain ⟨j9, hj9, rfl⟩ := isIn_of (by omega) hsw
      rcases (show j9 = 0 ∨ j9 = 1 ∨ j9 = 2 ∨ j9 = 3 ∨ j9 = 4 ∨ j9 = 5 ∨ j9 = 6 ∨ j9 = 7 ∨ j9 = 8 by omega) with rfl | rfl | rfl | rfl | rfl | rfl | rfl | rfl | rfl
      · refine g_tblIn h (pc := 13) (tgt := 64) dX4_all_13 (by decide) (by decide) (off := 51) (by decide) (by decide) ?_
        refine g_aload_n h (pc := 64) dX4_all_64 0 rfl ?_
        refine g_get h (pc := 65) dX4_all_65 iX4_all_4 0 rfl rfl 13 (by decide) fX4_all_44 rfl ?_
        refine g_iload_n h (pc := 68) dX4_all_68 1 rfl ?_
        refine g_iald h (pc := 69) (v := d.1 9 0 k) dX4_all_69 10 rfl (vp_in_nI (by omega) (by omega)) (by rw [nI_clamp (by omega)]) ?_
        exact hret _ dX4_all_70 rfl (by rw [e0]; exact (sw_in (j := 0) (Nat.le_of_ble_eq_true rfl) (Nat.le_of_ble_eq_true rfl) rfl).symm)
      · refine g_tblIn h (pc := 13) (tgt := 71) dX4_all_13 (by decide) (by decide) (off := 58) (by decide) (by decide) ?_
        refine g_aload_n h (pc := 71) dX4_all_71 0 rfl ?_
        refine g_get h (pc := 72) dX4_all_72 iX4_all_4 0 rfl rfl 14 (by decide) fX4_all_47 rfl ?_
        refine g_iload_n h (pc := 75) dX4_all_75 1 rfl ?_
        refine g_iald h (pc := 76) (v := d.1 10 0 k) dX4_all_76 11 rfl (vp_in_nI (by omega) (by omega)) (by rw [nI_clamp (by omega)]) ?_
        exact hret _ dX4_all_77 rfl (by rw [e0]; exact (sw_in (j := 1) (Nat.le_of_ble_eq_true rfl) (Nat.le_of_ble_eq_true rfl) rfl).symm)
      · refine g_tblIn h (pc := 13) (tgt := 78) dX4_all_13 (by decide) (by decide) (off := 65) (by decide) (by decide) ?_
        refine g_iconst h (pc := 78) (v := 0) dX4_all_78 (by decide) ?_
        refine g_istore h (pc := 79) dX4_all_79 (by decide) rfl ?_
        suffices loop : ∀ (m i : Nat), i + m = ns → GG C 5 (mwd cI a v Z d) 0 0 81 [(0, .ref (a 0)), (1, .int (nI k)), (2, .int (nI 2)), (3, .int (sumI (fun s => d.1 7 s k) i)), (4, .int (nI i))] [] from loop ns 0 (by omega)
        intro m
        induction m with
        | zero =>
          intro i h1
          refine g_iload h (pc := 81) dX4_all_81 4 rfl ?_
          refine g_aload_n h (pc := 83) dX4_all_83 0 rfl ?_
          refine g_get h (pc := 84) dX4_all_84 iX4_all_4 0 rfl rfl 5 (by decide) fX4_all_23 rfl ?_
          refine g_topi hz.ns ?_
          refine g_icmp_ge_t h (pc := 87) (tgt := 111) dX4_all_87 (by decide) (nI_le (by omega) (by omega)) ?_
          rw [show i = ns by omega]
          refine g_iload_n h (pc := 111) dX4_all_111 3 rfl ?_
          exact hret _ dX4_all_112 rfl (by rw [e0]; exact (sw_in (j := 2) (Nat.le_of_ble_eq_true rfl) (Nat.le_of_ble_eq_true rfl) rfl).symm)
        | succ m ih =>
          intro i h1
          refine g_iload h (pc := 81) dX4_all_81 4 rfl ?_
          refine g_aload_n h (pc := 83) dX4_all_83 0 rfl ?_
          refine g_get h (pc := 84) dX4_all_84 iX4_all_4 0 rfl rfl 5 (by decide) fX4_all_23 rfl ?_
          refine g_topi hz.ns ?_
          refine g_icmp_ge_f h (pc := 87) (tgt := 111) dX4_all_87 (by decide) (nI_ge (by omega) (by omega)) ?_
          refine g_iload_n h (pc := 90) dX4_all_90 3 rfl ?_
          refine g_aload_n h (pc := 91) dX4_all_91 0 rfl ?_
          refine g_get h (pc := 92) dX4_all_92 iX4_all_4 0 rfl rfl 10 (by decide) fX4_all_38 rfl ?_
          refine g_bipush h (pc := 95) (v := 8) dX4_all_95 (by decide) ?_
          refine g_iload h (pc := 97) dX4_all_97 4 rfl ?_
          refine g_imul h (pc := 99) dX4_all_99  ?_
          refine g_iload_n h (pc := 100) dX4_all_100 1 rfl ?_
          refine g_iadd h (pc := 101) dX4_all_101  ?_
          refine g_topi (nI_83 i k) ?_
          refine g_iald h (pc := 102) (v := d.1 7 i k) dX4_all_102 8 rfl (vp_in_nI (by omega) (by omega)) (by rw [nI_clamp (by omega)]; exact fl2_at _ (by omega)) ?_
          refine g_iadd h (pc := 103) dX4_all_103  ?_
          refine g_istore_n h (pc := 104) dX4_all_104 (by decide) rfl ?_
          refine g_iinc h (pc := 105) dX4_all_105 4 rfl (nI_1 i) (by decide) rfl ?_
          refine g_goto h (pc := 108) (tgt := 81) dX4_all_108 (by decide) ?_
          exact ih (i + 1) (by omega)
      · refine g_tblIn h (pc := 13) (tgt := 113) dX4_all_13 (by decide) (by decide) (off := 100) (by decide) (by decide) ?_
        refine g_aload_n h (pc := 113) dX4_all_113 0 rfl ?_
        refine g_iconst h (pc := 114) (v := (-1)) dX4_all_114 (by decide) ?_
        refine g_iload_n h (pc := 115) dX4_all_115 1 rfl ?_
        refine g_iconst h (pc := 116) (v := 0) dX4_all_116 (by decide) ?_
        refine g_callR h (pc := 117) (As := [.int (-1), .int (nI k), .int 0]) (st := []) dX4_all_117 (m_duesOf (gL C) (gD C) cI cO a v Z d hRM ns nk hz hlU (-1) k hk 0) [0, 1, 2, 3, 4, 5, 6, 7, 8, 9, 10, 11, 12, 13, 14, 15, 16, 17, 18, 19, 20, 21, 22, 23, 24] rfl (by decide) gX4_all_X4_duesOf rfl (q0 := 0) rfl rfl (show nPar yX4_duesOf RX4 3 = true by decide +kernel) ⟨Nat.le_of_ble_eq_true rfl, Nat.le_of_ble_eq_true rfl⟩ rfl (Nat.le_of_ble_eq_true rfl) ⟨Nat.zero_le _, Nat.zero_le _⟩ (fun r hr => ?_)
        subst hr
        refine g_aload_n h (pc := 120) dX4_all_120 0 rfl ?_
        refine g_iconst h (pc := 121) (v := (-1)) dX4_all_121 (by decide) ?_
        refine g_iload_n h (pc := 122) dX4_all_122 1 rfl ?_
        refine g_iconst h (pc := 123) (v := 3) dX4_all_123 (by decide) ?_
        refine g_callR h (pc := 124) (As := [.int (-1), .int (nI k), .int 3]) (st := [.int (nI (d.2.2.1.countP (duc (-1) (nI k) 0)))]) dX4_all_124 (m_duesOf (gL C) (gD C) cI cO a v Z d hRM ns nk hz hlU (-1) k hk 3) [0, 1, 2, 3, 4, 5, 6, 7, 8, 9, 10, 11, 12, 13, 14, 15, 16, 17, 18, 19, 20, 21, 22, 23, 24] rfl (by decide) gX4_all_X4_duesOf rfl (q0 := 0) rfl rfl (show nPar yX4_duesOf RX4 3 = true by decide +kernel) ⟨Nat.le_of_ble_eq_true rfl, Nat.le_of_ble_eq_true rfl⟩ rfl (Nat.le_of_ble_eq_true rfl) ⟨Nat.zero_le _, Nat.zero_le _⟩ (fun r hr => ?_)
        subst hr
        refine g_iadd h (pc := 127) dX4_all_127  ?_
        exact hret _ dX4_all_128 rfl (by rw [e0]; exact (sw_in (j := 3) (Nat.le_of_ble_eq_true rfl) (Nat.le_of_ble_eq_true rfl) rfl).symm)
      · refine g_tblIn h (pc := 13) (tgt := 129) dX4_all_13 (by decide) (by decide) (off := 116) (by decide) (by decide) ?_
        refine g_iconst h (pc := 129) (v := 0) dX4_all_129 (by decide) ?_
        refine g_istore h (pc := 130) dX4_all_130 (by decide) rfl ?_
        suffices loop : ∀ (m i : Nat), i + m = ns → GG C 5 (mwd cI a v Z d) 0 0 132 [(0, .ref (a 0)), (1, .int (nI k)), (2, .int (nI 4)), (3, .int (sumI (fun s => nI (d.2.1.countP (fitB (nI s) (-1) 2 (nI k)))) i)), (4, .int (nI i))] [] from loop ns 0 (by omega)
        intro m
        induction m with
        | zero =>
          intro i h1
          refine g_iload h (pc := 132) dX4_all_132 4 rfl ?_
          refine g_aload_n h (pc := 134) dX4_all_134 0 rfl ?_
          refine g_get h (pc := 135) dX4_all_135 iX4_all_4 0 rfl rfl 5 (by decide) fX4_all_23 rfl ?_
          refine g_topi hz.ns ?_
          refine g_icmp_ge_t h (pc := 138) (tgt := 157) dX4_all_138 (by decide) (nI_le (by omega) (by omega)) ?_
          rw [show i = ns by omega]
          refine g_iload_n h (pc := 157) dX4_all_157 3 rfl ?_
          refine g_aload_n h (pc := 158) dX4_all_158 0 rfl ?_
          refine g_iconst h (pc := 159) (v := (-1)) dX4_all_159 (by decide) ?_
          refine g_iload_n h (pc := 160) dX4_all_160 1 rfl ?_
          refine g_iconst h (pc := 161) (v := 1) dX4_all_161 (by decide) ?_
          rw [wait_sum hz.n8 (nI k) d.2.1 hA]
          refine g_callR h (pc := 162) (As := [.int (-1), .int (nI k), .int 1]) (st := [.int (nI (d.2.1.countP (fitB (-1) (-1) 2 (nI k))))]) dX4_all_162 (m_duesOf (gL C) (gD C) cI cO a v Z d hRM ns nk hz hlU (-1) k hk 1) [0, 1, 2, 3, 4, 5, 6, 7, 8, 9, 10, 11, 12, 13, 14, 15, 16, 17, 18, 19, 20, 21, 22, 23, 24] rfl (by decide) gX4_all_X4_duesOf rfl (q0 := 0) rfl rfl (show nPar yX4_duesOf RX4 3 = true by decide +kernel) ⟨Nat.le_of_ble_eq_true rfl, Nat.le_of_ble_eq_true rfl⟩ rfl (Nat.le_of_ble_eq_true rfl) ⟨Nat.zero_le _, Nat.zero_le _⟩ (fun r hr => ?_)
          subst hr
          refine g_iadd h (pc := 165) dX4_all_165  ?_
          exact hret _ dX4_all_166 rfl (by rw [e0, Int32.add_comm]; exact (sw_in (j := 4) (Nat.le_of_ble_eq_true rfl) (Nat.le_of_ble_eq_true rfl) rfl).symm)
        | succ m ih =>
          intro i h1
          refine g_iload h (pc := 132) dX4_all_132 4 rfl ?_
          refine g_aload_n h (pc := 134) dX4_all_134 0 rfl ?_
          refine g_get h (pc := 135) dX4_all_135 iX4_all_4 0 rfl rfl 5 (by decide) fX4_all_23 rfl ?_
          refine g_topi hz.ns ?_
          refine g_icmp_ge_f h (pc := 138) (tgt := 157) dX4_all_138 (by decide) (nI_ge (by omega) (by omega)) ?_
          refine g_iload_n h (pc := 141) dX4_all_141 3 rfl ?_
          refine g_aload_n h (pc := 142) dX4_all_142 0 rfl ?_
          refine g_iload h (pc := 143) dX4_all_143 4 rfl ?_
          refine g_iload_n h (pc := 145) dX4_all_145 1 rfl ?_
          refine g_callR h (pc := 146) (As := [.int (nI i), .int (nI k)]) (st := [.int (sumI (fun s => nI (d.2.1.countP (fitB (nI s) (-1) 2 (nI k)))) i)]) dX4_all_146 (m_wait (gL C) (gD C) cI cO a v Z d hRM ns nk hz hlA i k (by omega) hk) [0, 1, 2, 3, 4, 5, 6, 7, 8, 9, 10, 11, 12, 13, 14, 15, 16, 17, 18, 19, 20, 21, 22, 23, 24] rfl (by decide) gX4_all_X4_waiting rfl (q0 := 0) rfl rfl (show nPar yX4_waiting RX4 2 = true by decide +kernel) ⟨Nat.le_of_ble_eq_true rfl, Nat.le_of_ble_eq_true rfl⟩ rfl (Nat.le_of_ble_eq_true rfl) ⟨Nat.zero_le _, Nat.zero_le _⟩ (fun r hr => ?_)
          subst hr
          refine g_iadd h (pc := 149) dX4_all_149  ?_
          refine g_istore_n h (pc := 150) dX4_all_150 (by decide) rfl ?_
          refine g_iinc h (pc := 151) dX4_all_151 4 rfl (nI_1 i) (by decide) rfl ?_
          refine g_goto h (pc := 154) (tgt := 132) dX4_all_154 (by decide) ?_
          exact ih (i + 1) (by omega)
      · refine g_tblIn h (pc := 13) (tgt := 167) dX4_all_13 (by decide) (by decide) (off := 154) (by decide) (by decide) ?_
        refine g_aload_n h (pc := 167) dX4_all_167 0 rfl ?_
        refine g_iconst h (pc := 168) (v := (-1)) dX4_all_168 (by decide) ?_
        refine g_iload_n h (pc := 169) dX4_all_169 1 rfl ?_
        refine g_iconst h (pc := 170) (v := 2) dX4_all_170 (by decide) ?_
        refine g_callR h (pc := 171) (As := [.int (-1), .int (nI k), .int 2]) (st := []) dX4_all_171 (m_duesOf (gL C) (gD C) cI cO a v Z d hRM ns nk hz hlU (-1) k hk 2) [0, 1, 2, 3, 4, 5, 6, 7, 8, 9, 10, 11, 12, 13, 14, 15, 16, 17, 18, 19, 20, 21, 22, 23, 24] rfl (by decide) gX4_all_X4_duesOf rfl (q0 := 0) rfl rfl (show nPar yX4_duesOf RX4 3 = true by decide +kernel) ⟨Nat.le_of_ble_eq_true rfl, Nat.le_of_ble_eq_true rfl⟩ rfl (Nat.le_of_ble_eq_true rfl) ⟨Nat.zero_le _, Nat.zero_le _⟩ (fun r hr => ?_)
        subst hr
        exact hret _ dX4_all_174 rfl (by rw [e0]; exact (sw_in (j := 5) (Nat.le_of_ble_eq_true rfl) (Nat.le_of_ble_eq_true rfl) rfl).symm)
      · refine g_tblIn h (pc := 13) (tgt := 175) dX4_all_13 (by decide) (by decide) (off := 162) (by decide) (by decide) ?_
        refine g_aload_n h (pc := 175) dX4_all_175 0 rfl ?_
        refine g_get h (pc := 176) dX4_all_176 iX4_all_4 0 rfl rfl 15 (by decide) fX4_all_50 rfl ?_
        refine g_iload_n h (pc := 179) dX4_all_179 1 rfl ?_
        refine g_iald h (pc := 180) (v := d.1 11 0 k) dX4_all_180 12 rfl (vp_in_nI (by omega) (by omega)) (by rw [nI_clamp (by omega)]) ?_
        exact hret _ dX4_all_181 rfl (by rw [e0]; exact (sw_in (j := 6) (Nat.le_of_ble_eq_true rfl) (Nat.le_of_ble_eq_true rfl) rfl).symm)
      · refine g_tblIn h (pc := 13) (tgt := 182) dX4_all_13 (by decide) (by decide) (off := 169) (by decide) (by decide) ?_
        refine g_aload_n h (pc := 182) dX4_all_182 0 rfl ?_
        refine g_get h (pc := 183) dX4_all_183 iX4_all_4 0 rfl rfl 16 (by decide) fX4_all_53 rfl ?_
        refine g_iload_n h (pc := 186) dX4_all_186 1 rfl ?_
        refine g_iald h (pc := 187) (v := d.1 12 0 k) dX4_all_187 13 rfl (vp_in_nI (by omega) (by omega)) (by rw [nI_clamp (by omega)]) ?_
        exact hret _ dX4_all_188 rfl (by rw [e0]; exact (sw_in (j := 7) (Nat.le_of_ble_eq_true rfl) (Nat.le_of_ble_eq_true rfl) rfl).symm)
      · refine g_tblIn h (pc := 13) (tgt := 189) dX4_all_13 (by decide) (by decide) (off := 176) (by decide) (by decide) ?_
        refine g_aload_n h (pc := 189) dX4_all_189 0 rfl ?_
        refine g_get h (pc := 190) dX4_all_190 iX4_all_4 0 rfl rfl 17 (by decide) fX4_all_56 rfl ?_
        refine g_iload_n h (pc := 193) dX4_all_193 1 rfl ?_
        refine g_iald h (pc := 194) (v := d.1 13 0 k) dX4_all_194 14 rfl (vp_in_nI (by omega) (by omega)) (by rw [nI_clamp (by omega)]) ?_
        exact hret _ dX4_all_195 rfl (by rw [e0]; exact (sw_in (j := 8) (Nat.le_of_ble_eq_true rfl) (Nat.le_of_ble_eq_true rfl) rfl).symm)

theorem iX4_field_4 : ∀ w ∈ wsX40, w ∈ wsX4_field := by decide +kernel
theorem fX4_field_26 : Cond.fieldLink RX4 26 "SpareShelvesModel" "up" "[I" ∈ wsX4_field := by decide +kernel
theorem fX4_field_29 : Cond.fieldLink RX4 29 "SpareShelvesModel" "way" "[I" ∈ wsX4_field := by decide +kernel
theorem fX4_field_32 : Cond.fieldLink RX4 32 "SpareShelvesModel" "stood" "[I" ∈ wsX4_field := by decide +kernel
theorem fX4_field_110 : Cond.fieldLink RX4 110 "SpareShelvesModel" "asks" "I" ∈ wsX4_field := by decide +kernel
theorem fX4_field_65 : Cond.fieldLink RX4 65 "SpareShelvesModel" "askBy" "[I" ∈ wsX4_field := by decide +kernel
theorem fX4_field_59 : Cond.fieldLink RX4 59 "SpareShelvesModel" "askShelf" "[I" ∈ wsX4_field := by decide +kernel
theorem fX4_field_71 : Cond.fieldLink RX4 71 "SpareShelvesModel" "askSince" "[I" ∈ wsX4_field := by decide +kernel
set_option maxHeartbeats 4000000 in
set_option maxRecDepth 100000 in
theorem m_field (l : Launch) (D : va_G) (cI cO : ClassId) (a : Nat → Nat) (v : MX) (Z : Sg) (d : Dy) (hRM : RM d v) (ns nk : Nat) (hz : Zv ns nk Z)  (hlA : d.2.1.length ≤ 5900) (x wh : Int32) : CRm l yX4_field wsX4_field 2 50 D cI cO a v Z d [.int x, .int wh] (fieldP ns Z d x wh) := by
  unfold CRm
  refine CR.of (cc := cX4_field) (maxL := 4) (rt := .int) (by decide) rfl (Nat.le_of_ble_eq_true rfl) ?_
  intro C hgL hgD h hret
  have hn8 := hz.n8
  have hk8 := hz.k8
  refine g_aload_n h (pc := 0) dX4_field_0 0 rfl ?_
  refine g_iload_n h (pc := 1) dX4_field_1 1 rfl ?_
  refine g_callR h (pc := 2) (As := [.int x]) (st := []) dX4_field_2 (m_isS (gL C) (gD C) cI cO a v Z d hRM ns nk hz x) [0, 1, 2, 3, 4, 5, 6, 7, 8, 9, 10, 11, 12, 13, 14, 15, 16, 17, 18, 19, 20, 21, 22, 23, 24] rfl (by decide) gX4_field_X4_isShelf rfl (q0 := 0) rfl rfl (show nPar yX4_isShelf RX4 1 = true by decide +kernel) ⟨Nat.le_of_ble_eq_true rfl, Nat.le_of_ble_eq_true rfl⟩ rfl (Nat.le_of_ble_eq_true rfl) ⟨Nat.zero_le _, Nat.zero_le _⟩ (fun r hr => ?_)
  subst hr
  cases hp : isIn x ns with
  | false =>
    refine g_topi (y := 0) rfl ?_
    refine g_if_ne_f h (pc := 5) (tgt := 10) dX4_field_5 (by decide) rfl ?_
    refine g_iconst h (pc := 8) (v := (-1)) dX4_field_8 (by decide) ?_
    exact hret _ dX4_field_9 rfl (by unfold fieldP; rw [if_pos hp])
  | true =>
    refine g_topi (y := 1) rfl ?_
    refine g_if_ne_t h (pc := 5) (tgt := 10) dX4_field_5 (by decide) (by decide) ?_
    obtain ⟨s, hs, rfl⟩ := isIn_of (by omega) hp
    have ts : tN (nI s) = s := nI_clamp (by omega)
    refine g_iload_n h (pc := 10) dX4_field_10 2 rfl ?_
    have e0 : ∀ q, fieldP ns Z d (nI s) q = sw q [Z 3 0 s, Z 4 0 s, nI (d.2.1.countP (fitB (nI s) (-1) 0 (-1))), d.1 5 0 s, oc 3 (nth (fitB (nI s) (-1) 0 (-1)) d.2.1 0)] := by
      intro q
      unfold fieldP
      rw [hp, if_neg (by decide), ts]
    cases hsw : isIn wh 5 with
    | false =>
      refine g_tblOut h (pc := 11) (tgt := 115) dX4_field_11 (isIn_out hsw rfl) (by decide) ?_
      refine g_iconst h (pc := 115) (v := (-1)) dX4_field_115 (by decide) ?_
      exact hret _ dX4_field_116 rfl (by rw [e0]; exact (sw_out hsw).symm)
    | true =>
      obtain ⟨j9, hj9, rfl⟩ := isIn_of (by omega) hsw
      rcases (show j9 = 0 ∨ j9 = 1 ∨ j9 = 2 ∨ j9 = 3 ∨ j9 = 4 by omega) with rfl | rfl | rfl | rfl | rfl
      · refine g_tblIn h (pc := 11) (tgt := 44) dX4_field_11 (by decide) (by decide) (off := 33) (by decide) (by decide) ?_
        refine g_aload_n h (pc := 44) dX4_field_44 0 rfl ?_
        refine g_get h (pc := 45) dX4_field_45 iX4_field_4 0 rfl rfl 6 (by decide) fX4_field_26 rfl ?_
        refine g_iload_n h (pc := 48) dX4_field_48 1 rfl ?_
        refine g_iald h (pc := 49) (v := Z 3 0 s) dX4_field_49 4 rfl (vp_in_nI (by omega) (by omega)) (by rw [nI_clamp (by omega)]) ?_
        exact hret _ dX4_field_50 rfl (by rw [e0]; exact (sw_in (j := 0) (Nat.le_of_ble_eq_true rfl) (Nat.le_of_ble_eq_true rfl) rfl).symm)
      · refine g_tblIn h (pc := 11) (tgt := 51) dX4_field_11 (by decide) (by decide) (off := 40) (by decide) (by decide) ?_
        refine g_aload_n h (pc := 51) dX4_field_51 0 rfl ?_
        refine g_get h (pc := 52) dX4_field_52 iX4_field_4 0 rfl rfl 7 (by decide) fX4_field_29 rfl ?_
        refine g_iload_n h (pc := 55) dX4_field_55 1 rfl ?_
        refine g_iald h (pc := 56) (v := Z 4 0 s) dX4_field_56 5 rfl (vp_in_nI (by omega) (by omega)) (by rw [nI_clamp (by omega)]) ?_
        exact hret _ dX4_field_57 rfl (by rw [e0]; exact (sw_in (j := 1) (Nat.le_of_ble_eq_true rfl) (Nat.le_of_ble_eq_true rfl) rfl).symm)
      · refine g_tblIn h (pc := 11) (tgt := 58) dX4_field_11 (by decide) (by decide) (off := 47) (by decide) (by decide) ?_
        refine g_aload_n h (pc := 58) dX4_field_58 0 rfl ?_
        refine g_iload_n h (pc := 59) dX4_field_59 1 rfl ?_
        refine g_callR h (pc := 60) (As := [.int (nI s)]) (st := []) dX4_field_60 (m_standing (gL C) (gD C) cI cO a v Z d hRM ns nk hz hlA (nI s)) [0, 1, 2, 3, 4, 5, 6, 7, 8, 9, 10, 11, 12, 13, 14, 15, 16, 17, 18, 19, 20, 21, 22, 23, 24] rfl (by decide) gX4_field_X4_standing rfl (q0 := 0) rfl rfl (show nPar yX4_standing RX4 1 = true by decide +kernel) ⟨Nat.le_of_ble_eq_true rfl, Nat.le_of_ble_eq_true rfl⟩ rfl (Nat.le_of_ble_eq_true rfl) ⟨Nat.zero_le _, Nat.zero_le _⟩ (fun r hr => ?_)
        subst hr
        exact hret _ dX4_field_63 rfl (by rw [e0]; exact (sw_in (j := 2) (Nat.le_of_ble_eq_true rfl) (Nat.le_of_ble_eq_true rfl) rfl).symm)
      · refine g_tblIn h (pc := 11) (tgt := 64) dX4_field_11 (by decide) (by decide) (off := 53) (by decide) (by decide) ?_
        refine g_aload_n h (pc := 64) dX4_field_64 0 rfl ?_
        refine g_get h (pc := 65) dX4_field_65 iX4_field_4 0 rfl rfl 8 (by decide) fX4_field_32 rfl ?_
        refine g_iload_n h (pc := 68) dX4_field_68 1 rfl ?_
        refine g_iald h (pc := 69) (v := d.1 5 0 s) dX4_field_69 6 rfl (vp_in_nI (by omega) (by omega)) (by rw [nI_clamp (by omega)]) ?_
        exact hret _ dX4_field_70 rfl (by rw [e0]; exact (sw_in (j := 3) (Nat.le_of_ble_eq_true rfl) (Nat.le_of_ble_eq_true rfl) rfl).symm)
      · refine g_tblIn h (pc := 11) (tgt := 71) dX4_field_11 (by decide) (by decide) (off := 60) (by decide) (by decide) ?_
        refine g_iconst h (pc := 71) (v := 0) dX4_field_71 (by decide) ?_
        refine g_istore_n h (pc := 72) dX4_field_72 (by decide) rfl ?_
        suffices loop : ∀ (m i : Nat), i + m = d.2.1.length → nth (fitB (nI s) (-1) 0 (-1)) (d.2.1.drop i) 0 = nth (fitB (nI s) (-1) 0 (-1)) d.2.1 0 → GG C 4 (mwd cI a v Z d) 0 0 73 [(0, .ref (a 0)), (1, .int (nI s)), (2, .int (nI 4)), (3, .int (nI i))] [] from loop d.2.1.length 0 (by omega) rfl
        intro m
        induction m with
        | zero =>
          intro i h1 hn
          refine g_iload_n h (pc := 73) dX4_field_73 3 rfl ?_
          refine g_aload_n h (pc := 74) dX4_field_74 0 rfl ?_
          refine g_get h (pc := 75) dX4_field_75 iX4_field_4 0 rfl rfl 18 (by decide) fX4_field_110 rfl ?_
          refine g_icmp_ge_t h (pc := 78) (tgt := 113) dX4_field_78 (by decide) (nI_le (by omega) (by omega)) ?_
          refine g_iconst h (pc := 113) (v := (-1)) dX4_field_113 (by decide) ?_
          exact hret _ dX4_field_114 rfl (by rw [e0, ← hn, List.drop_of_length_le (by omega)]; exact (sw_in (j := 4) (Nat.le_of_ble_eq_true rfl) (Nat.le_of_ble_eq_true rfl) rfl).symm)
        | succ m ih =>
          intro i h1 hn
          obtain ⟨e, he⟩ : ∃ e, d.2.1[i]? = some e := ⟨_, List.getElem?_eq_getElem (show i < d.2.1.length by omega)⟩
          rw [nth_drop he] at hn
          refine g_iload_n h (pc := 73) dX4_field_73 3 rfl ?_
          refine g_aload_n h (pc := 74) dX4_field_74 0 rfl ?_
          refine g_get h (pc := 75) dX4_field_75 iX4_field_4 0 rfl rfl 18 (by decide) fX4_field_110 rfl ?_
          refine g_icmp_ge_f h (pc := 78) (tgt := 113) dX4_field_78 (by decide) (nI_ge (by omega) (by omega)) ?_
          refine g_aload_n h (pc := 81) dX4_field_81 0 rfl ?_
          refine g_get h (pc := 82) dX4_field_82 iX4_field_4 0 rfl rfl 21 (by decide) fX4_field_65 rfl ?_
          refine g_iload_n h (pc := 85) dX4_field_85 3 rfl ?_
          refine g_iald h (pc := 86) (v := col 2 e) dX4_field_86 17 rfl (vp_in_nI (by omega) (by omega)) (by rw [nI_clamp (by omega)]; exact hRM.a he 2 (by decide)) ?_
          refine g_if_ne h (pc := 87) (tgt := 107) dX4_field_87 (by decide) (fun c1 => ?_) (fun c1 => ?_)
          · refine g_iinc h (pc := 107) dX4_field_107 3 rfl (nI_1 i) (by decide) rfl ?_
            refine g_goto h (pc := 110) (tgt := 73) dX4_field_110 (by decide) ?_
            exact ih (i + 1) (by omega) (by rw [← hn, fitB_2 (by decide) c1]; rfl)
          · refine g_aload_n h (pc := 90) dX4_field_90 0 rfl ?_
            refine g_get h (pc := 91) dX4_field_91 iX4_field_4 0 rfl rfl 19 (by decide) fX4_field_59 rfl ?_
            refine g_iload_n h (pc := 94) dX4_field_94 3 rfl ?_
            refine g_iald h (pc := 95) (v := col 0 e) dX4_field_95 15 rfl (vp_in_nI (by omega) (by omega)) (by rw [nI_clamp (by omega)]; exact hRM.a he 0 (by decide)) ?_
            refine g_iload_n h (pc := 96) dX4_field_96 1 rfl ?_
            refine g_icmp_ne h (pc := 97) (tgt := 107) dX4_field_97 (by decide) (fun c2 => ?_) (fun c2 => ?_)
            · refine g_iinc h (pc := 107) dX4_field_107 3 rfl (nI_1 i) (by decide) rfl ?_
              refine g_goto h (pc := 110) (tgt := 73) dX4_field_110 (by decide) ?_
              exact ih (i + 1) (by omega) (by rw [← hn, fitB_0 (nI_nm1 (by omega)) c2]; rfl)
            · refine g_aload_n h (pc := 100) dX4_field_100 0 rfl ?_
              refine g_get h (pc := 101) dX4_field_101 iX4_field_4 0 rfl rfl 23 (by decide) fX4_field_71 rfl ?_
              refine g_iload_n h (pc := 104) dX4_field_104 3 rfl ?_
              refine g_iald h (pc := 105) (v := col 3 e) dX4_field_105 19 rfl (vp_in_nI (by omega) (by omega)) (by rw [nI_clamp (by omega)]; exact hRM.a he 4 (by decide)) ?_
              exact hret _ dX4_field_106 rfl (by rw [e0, ← hn, fitB_t (Or.inr c2) (Or.inl rfl) (Or.inr c1) (Or.inl rfl)]; exact (sw_in (j := 4) (Nat.le_of_ble_eq_true rfl) (Nat.le_of_ble_eq_true rfl) rfl).symm)

theorem iX4_ask_4 : ∀ w ∈ wsX40, w ∈ wsX4_ask := by decide +kernel
theorem fX4_ask_110 : Cond.fieldLink RX4 110 "SpareShelvesModel" "asks" "I" ∈ wsX4_ask := by decide +kernel
theorem fX4_ask_59 : Cond.fieldLink RX4 59 "SpareShelvesModel" "askShelf" "[I" ∈ wsX4_ask := by decide +kernel
theorem fX4_ask_62 : Cond.fieldLink RX4 62 "SpareShelvesModel" "askKind" "[I" ∈ wsX4_ask := by decide +kernel
theorem fX4_ask_68 : Cond.fieldLink RX4 68 "SpareShelvesModel" "askOf" "[I" ∈ wsX4_ask := by decide +kernel
theorem fX4_ask_71 : Cond.fieldLink RX4 71 "SpareShelvesModel" "askSince" "[I" ∈ wsX4_ask := by decide +kernel
theorem fX4_ask_65 : Cond.fieldLink RX4 65 "SpareShelvesModel" "askBy" "[I" ∈ wsX4_ask := by decide +kernel
set_option maxHeartbeats 4000000 in
set_option maxRecDepth 100000 in
theorem m_ask (l : Launch) (D : va_G) (cI cO : ClassId) (a : Nat → Nat) (v : MX) (Z : Sg) (d : Dy) (hRM : RM d v) (ns nk : Nat) (hz : Zv ns nk Z)  (hlA : d.2.1.length ≤ 5900) (x y i0 wh : Int32) : CRm l yX4_ask wsX4_ask 2 50 D cI cO a v Z d [.int x, .int y, .int i0, .int wh] (askP ns nk d x y i0 wh) := by
  unfold CRm
  refine CR.of (cc := cX4_ask) (maxL := 7) (rt := .int) (by decide) rfl (Nat.le_of_ble_eq_true rfl) ?_
  intro C hgL hgD h hret
  have hn8 := hz.n8
  have hk8 := hz.k8
  refine g_aload_n h (pc := 0) dX4_ask_0 0 rfl ?_
  refine g_iload_n h (pc := 1) dX4_ask_1 1 rfl ?_
  refine g_callR h (pc := 2) (As := [.int x]) (st := []) dX4_ask_2 (m_isS (gL C) (gD C) cI cO a v Z d hRM ns nk hz x) [0, 1, 2, 3, 4, 5, 6, 7, 8, 9, 10, 11, 12, 13, 14, 15, 16, 17, 18, 19, 20, 21, 22, 23, 24] rfl (by decide) gX4_ask_X4_isShelf rfl (q0 := 0) rfl rfl (show nPar yX4_isShelf RX4 1 = true by decide +kernel) ⟨Nat.le_of_ble_eq_true rfl, Nat.le_of_ble_eq_true rfl⟩ rfl (Nat.le_of_ble_eq_true rfl) ⟨Nat.zero_le _, Nat.zero_le _⟩ (fun r hr => ?_)
  subst hr
  cases hp1 : isIn x ns with
  | false =>
    refine g_topi (y := 0) rfl ?_
    refine g_if_eq_t h (pc := 5) (tgt := 20) dX4_ask_5 (by decide) rfl ?_
    have hp : (isIn x ns && isIn y nk) = false := by rw [hp1]; rfl
    refine g_iconst h (pc := 20) (v := (-1)) dX4_ask_20 (by decide) ?_
    exact hret _ dX4_ask_21 rfl (by unfold askP; rw [if_pos hp])
  | true =>
    refine g_topi (y := 1) rfl ?_
    refine g_if_eq_f h (pc := 5) (tgt := 20) dX4_ask_5 (by decide) (by decide) ?_
    refine g_aload_n h (pc := 8) dX4_ask_8 0 rfl ?_
    refine g_iload_n h (pc := 9) dX4_ask_9 2 rfl ?_
    refine g_callR h (pc := 10) (As := [.int y]) (st := []) dX4_ask_10 (m_isK (gL C) (gD C) cI cO a v Z d hRM ns nk hz y) [0, 1, 2, 3, 4, 5, 6, 7, 8, 9, 10, 11, 12, 13, 14, 15, 16, 17, 18, 19, 20, 21, 22, 23, 24] rfl (by decide) gX4_ask_X4_isKind rfl (q0 := 0) rfl rfl (show nPar yX4_isKind RX4 1 = true by decide +kernel) ⟨Nat.le_of_ble_eq_true rfl, Nat.le_of_ble_eq_true rfl⟩ rfl (Nat.le_of_ble_eq_true rfl) ⟨Nat.zero_le _, Nat.zero_le _⟩ (fun r hr => ?_)
    subst hr
    cases hp2 : isIn y nk with
    | false =>
      refine g_topi (y := 0) rfl ?_
      refine g_if_eq_t h (pc := 13) (tgt := 20) dX4_ask_13 (by decide) rfl ?_
      have hp : (isIn x ns && isIn y nk) = false := by rw [hp1, hp2]; rfl
      refine g_iconst h (pc := 20) (v := (-1)) dX4_ask_20 (by decide) ?_
      exact hret _ dX4_ask_21 rfl (by unfold askP; rw [if_pos hp])
    | true =>
      refine g_topi (y := 1) rfl ?_
      refine g_if_eq_f h (pc := 13) (tgt := 20) dX4_ask_13 (by decide) (by decide) ?_
      have hp : (isIn x ns && isIn y nk) = true := by rw [hp1, hp2]; rfl
      obtain ⟨s, hs, rfl⟩ := isIn_of (by omega) hp1
      obtain ⟨k, hk, rfl⟩ := isIn_of (by omega) hp2
      have ts : tN (nI s) = s := nI_clamp (by omega)
      have tk : tN (nI k) = k := nI_clamp (by omega)
      refine g_iload_n h (pc := 16) dX4_ask_16 3 rfl ?_
      have e0 : askP ns nk d (nI s) (nI k) i0 wh = sw wh [oc 2 (nth (fitB (nI s) (nI k) (-1) (-1)) d.2.1 i0), oc 3 (nth (fitB (nI s) (nI k) (-1) (-1)) d.2.1 i0), oc 4 (nth (fitB (nI s) (nI k) (-1) (-1)) d.2.1 i0)] := by
        unfold askP
        rw [hp, if_neg (by decide)]
      have e5 : (nth (fitB (nI s) (nI k) (-1) (-1)) d.2.1 i0) = none → sw wh [oc 2 (nth (fitB (nI s) (nI k) (-1) (-1)) d.2.1 i0), oc 3 (nth (fitB (nI s) (nI k) (-1) (-1)) d.2.1 i0), oc 4 (nth (fitB (nI s) (nI k) (-1) (-1)) d.2.1 i0)] = -1 := fun hn => by
        rw [hn]
        cases hsw : isIn wh 3 with
        | false => exact sw_out hsw
        | true =>
          obtain ⟨j9, hj9, rfl⟩ := isIn_of (by omega) hsw
          rcases (show j9 = 0 ∨ j9 = 1 ∨ j9 = 2 by omega) with rfl | rfl | rfl <;> exact sw_in (Nat.le_of_ble_eq_true rfl) (Nat.le_of_ble_eq_true rfl) rfl
      refine g_if_ge h (pc := 17) (tgt := 22) dX4_ask_17 (by decide) (fun c0 => ?_) (fun c0 => ?_)
      · refine g_iload_n h (pc := 22) dX4_ask_22 3 rfl ?_
        refine g_istore h (pc := 23) dX4_ask_23 (by decide) rfl ?_
        refine g_iconst h (pc := 25) (v := 0) dX4_ask_25 (by decide) ?_
        refine g_istore h (pc := 26) dX4_ask_26 (by decide) rfl ?_
        suffices loop : ∀ (m i : Nat) (left : Int32), i + m = d.2.1.length → nth (fitB (nI s) (nI k) (-1) (-1)) (d.2.1.drop i) left = (nth (fitB (nI s) (nI k) (-1) (-1)) d.2.1 i0) → GG C 7 (mwd cI a v Z d) 0 0 28 [(0, .ref (a 0)), (1, .int (nI s)), (2, .int (nI k)), (3, .int i0), (4, .int wh), (5, .int left), (6, .int (nI i))] [] from loop d.2.1.length 0 i0 (by omega) rfl
        intro m
        induction m with
        | zero =>
          intro i left h1 hn
          refine g_iload h (pc := 28) dX4_ask_28 6 rfl ?_
          refine g_aload_n h (pc := 30) dX4_ask_30 0 rfl ?_
          refine g_get h (pc := 31) dX4_ask_31 iX4_ask_4 0 rfl rfl 18 (by decide) fX4_ask_110 rfl ?_
          refine g_icmp_ge_t h (pc := 34) (tgt := 125) dX4_ask_34 (by decide) (nI_le (by omega) (by omega)) ?_
          refine g_iconst h (pc := 125) (v := (-1)) dX4_ask_125 (by decide) ?_
          exact hret _ dX4_ask_126 rfl (by rw [e0]; exact (e5 (by rw [← hn, List.drop_of_length_le (by omega)]; rfl)).symm)
        | succ m ih =>
          intro i left h1 hn
          obtain ⟨e, he⟩ : ∃ e, d.2.1[i]? = some e := ⟨_, List.getElem?_eq_getElem (show i < d.2.1.length by omega)⟩
          rw [nth_drop he] at hn
          refine g_iload h (pc := 28) dX4_ask_28 6 rfl ?_
          refine g_aload_n h (pc := 30) dX4_ask_30 0 rfl ?_
          refine g_get h (pc := 31) dX4_ask_31 iX4_ask_4 0 rfl rfl 18 (by decide) fX4_ask_110 rfl ?_
          refine g_icmp_ge_f h (pc := 34) (tgt := 125) dX4_ask_34 (by decide) (nI_ge (by omega) (by omega)) ?_
          refine g_aload_n h (pc := 37) dX4_ask_37 0 rfl ?_
          refine g_get h (pc := 38) dX4_ask_38 iX4_ask_4 0 rfl rfl 19 (by decide) fX4_ask_59 rfl ?_
          refine g_iload h (pc := 41) dX4_ask_41 6 rfl ?_
          refine g_iald h (pc := 43) (v := col 0 e) dX4_ask_43 15 rfl (vp_in_nI (by omega) (by omega)) (by rw [nI_clamp (by omega)]; exact hRM.a he 0 (by decide)) ?_
          refine g_iload_n h (pc := 44) dX4_ask_44 1 rfl ?_
          refine g_icmp_ne h (pc := 45) (tgt := 119) dX4_ask_45 (by decide) (fun c1 => ?_) (fun c1 => ?_)
          · refine g_iinc h (pc := 119) dX4_ask_119 6 rfl (nI_1 i) (by decide) rfl ?_
            refine g_goto h (pc := 122) (tgt := 28) dX4_ask_122 (by decide) ?_
            exact ih (i + 1) left (by omega) (by rw [← hn, fitB_0 (nI_nm1 (by omega)) c1]; rfl)
          · refine g_aload_n h (pc := 48) dX4_ask_48 0 rfl ?_
            refine g_get h (pc := 49) dX4_ask_49 iX4_ask_4 0 rfl rfl 20 (by decide) fX4_ask_62 rfl ?_
            refine g_iload h (pc := 52) dX4_ask_52 6 rfl ?_
            refine g_iald h (pc := 54) (v := col 1 e) dX4_ask_54 16 rfl (vp_in_nI (by omega) (by omega)) (by rw [nI_clamp (by omega)]; exact hRM.a he 1 (by decide)) ?_
            refine g_iload_n h (pc := 55) dX4_ask_55 2 rfl ?_
            refine g_icmp_eq h (pc := 56) (tgt := 62) dX4_ask_56 (by decide) (fun c2 => ?_) (fun c2 => ?_)
            · rw [fitB_t (Or.inr c1) (Or.inr c2) (Or.inl rfl) (Or.inl rfl), if_pos rfl] at hn
              refine g_iload h (pc := 62) dX4_ask_62 5 rfl ?_
              refine g_if_ne h (pc := 64) (tgt := 116) dX4_ask_64 (by decide) (fun c3 => ?_) (fun c3 => ?_)
              · rw [if_neg c3] at hn
                refine g_iinc h (pc := 116) dX4_ask_116 5 rfl (show left + Int32.ofInt (-1) = left + (-1) from congrArg (left + ·) (by decide)) (by decide) rfl ?_
                refine g_iinc h (pc := 119) dX4_ask_119 6 rfl (nI_1 i) (by decide) rfl ?_
                refine g_goto h (pc := 122) (tgt := 28) dX4_ask_122 (by decide) ?_
                exact ih (i + 1) _ (by omega) hn
              · rw [if_pos c3] at hn
                rw [← hn] at e0
                refine g_iload h (pc := 67) dX4_ask_67 4 rfl ?_
                refine g_if_ne h (pc := 69) (tgt := 82) dX4_ask_69 (by decide) (fun c4 => ?_) (fun c4 => ?_)
                · refine g_iload h (pc := 82) dX4_ask_82 4 rfl ?_
                  refine g_iconst h (pc := 84) (v := 1) dX4_ask_84 (by decide) ?_
                  refine g_icmp_ne h (pc := 85) (tgt := 98) dX4_ask_85 (by decide) (fun c5 => ?_) (fun c5 => ?_)
                  · refine g_iload h (pc := 98) dX4_ask_98 4 rfl ?_
                    refine g_iconst h (pc := 100) (v := 2) dX4_ask_100 (by decide) ?_
                    refine g_icmp_ne h (pc := 101) (tgt := 114) dX4_ask_101 (by decide) (fun c6 => ?_) (fun c6 => ?_)
                    · refine g_iconst h (pc := 114) (v := (-1)) dX4_ask_114 (by decide) ?_
                      exact hret _ dX4_ask_115 rfl (by rw [e0]; refine (sw_out ?_).symm; cases hsw : isIn wh 3 with
        | false => first | exact hsw | rfl
        | true =>
          obtain ⟨j9, hj9, rfl⟩ := isIn_of (by omega) hsw
          rcases (show j9 = 0 ∨ j9 = 1 ∨ j9 = 2 by omega) with rfl | rfl | rfl
          · exact absurd rfl c4
          · exact absurd rfl c5
          · exact absurd rfl c6)
                    · subst c6
                      refine g_aload_n h (pc := 104) dX4_ask_104 0 rfl ?_
                      refine g_get h (pc := 105) dX4_ask_105 iX4_ask_4 0 rfl rfl 22 (by decide) fX4_ask_68 rfl ?_
                      refine g_iload h (pc := 108) dX4_ask_108 6 rfl ?_
                      refine g_iald h (pc := 110) (v := col 4 e) dX4_ask_110 18 rfl (vp_in_nI (by omega) (by omega)) (by rw [nI_clamp (by omega)]; exact hRM.a he 3 (by decide)) ?_
                      refine g_goto h (pc := 111) (tgt := 115) dX4_ask_111 (by decide) ?_
                      exact hret _ dX4_ask_115 rfl (by rw [e0]; exact (sw_in (j := 2) (Nat.le_of_ble_eq_true rfl) (Nat.le_of_ble_eq_true rfl) rfl).symm)
                  · subst c5
                    refine g_aload_n h (pc := 88) dX4_ask_88 0 rfl ?_
                    refine g_get h (pc := 89) dX4_ask_89 iX4_ask_4 0 rfl rfl 23 (by decide) fX4_ask_71 rfl ?_
                    refine g_iload h (pc := 92) dX4_ask_92 6 rfl ?_
                    refine g_iald h (pc := 94) (v := col 3 e) dX4_ask_94 19 rfl (vp_in_nI (by omega) (by omega)) (by rw [nI_clamp (by omega)]; exact hRM.a he 4 (by decide)) ?_
                    refine g_goto h (pc := 95) (tgt := 115) dX4_ask_95 (by decide) ?_
                    exact hret _ dX4_ask_115 rfl (by rw [e0]; exact (sw_in (j := 1) (Nat.le_of_ble_eq_true rfl) (Nat.le_of_ble_eq_true rfl) rfl).symm)
                · subst c4
                  refine g_aload_n h (pc := 72) dX4_ask_72 0 rfl ?_
                  refine g_get h (pc := 73) dX4_ask_73 iX4_ask_4 0 rfl rfl 21 (by decide) fX4_ask_65 rfl ?_
                  refine g_iload h (pc := 76) dX4_ask_76 6 rfl ?_
                  refine g_iald h (pc := 78) (v := col 2 e) dX4_ask_78 17 rfl (vp_in_nI (by omega) (by omega)) (by rw [nI_clamp (by omega)]; exact hRM.a he 2 (by decide)) ?_
                  refine g_goto h (pc := 79) (tgt := 115) dX4_ask_79 (by decide) ?_
                  exact hret _ dX4_ask_115 rfl (by rw [e0]; exact (sw_in (j := 0) (Nat.le_of_ble_eq_true rfl) (Nat.le_of_ble_eq_true rfl) rfl).symm)
            · refine g_goto h (pc := 59) (tgt := 119) dX4_ask_59 (by decide) ?_
              refine g_iinc h (pc := 119) dX4_ask_119 6 rfl (nI_1 i) (by decide) rfl ?_
              refine g_goto h (pc := 122) (tgt := 28) dX4_ask_122 (by decide) ?_
              exact ih (i + 1) left (by omega) (by rw [← hn, fitB_1 (nI_nm1 (by omega)) c2]; rfl)
      · refine g_iconst h (pc := 20) (v := (-1)) dX4_ask_20 (by decide) ?_
        exact hret _ dX4_ask_21 rfl (by rw [e0]; exact (e5 (nth_none _ _ _ (by have := neg_big (x := i0) (Int32.not_le.mp c0); omega))).symm)
