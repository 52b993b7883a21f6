theorem gd_does {ns nk B tau : Nat} {Z : Sg} (hz : Zv ns nk Z) {d : Dy} (h : Gd B d) {i : Nat} {e : E5} (he : okU ns nk Z tau e) : Gd (B + 1) (does Z d i e) := by
  have hn := hz.n8
  have hk8 := hz.k8
  obtain ⟨s, k, t2, a1, a2, a3, a4, a5, a6, a7, a8⟩ := he
  unfold does
  rw [a3, a4, nI_clamp (by omega), nI_clamp (by omega)]
  rcases a8 with b | ⟨b, hh⟩
  · rw [if_neg (by rcases b with b | b | b <;> rw [b] <;> decide)]
    exact gd_lands hz (d := xU d i) h a1 a2
  · rw [if_pos b]
    exact (gd_back hz (d := xU d i) h a1 a2 hh).le (by omega)
theorem su_same (z : Sg) (f r i : Nat) : su z f r i (z f r i) = z := by
  funext x y j
  by_cases h : x = f
  · subst h
    rw [su_at]
    by_cases q : y = r ∧ j = i
    · rw [if_pos q, q.1, q.2]
    · rw [if_neg q]
  · rw [su_ne _ _ _ _ h]
theorem gd_stands {B : Nat} {d : Dy} (h : Gd B d) : Gd B (stands d) := by
  have key : ∀ (L : List E5) (z : Sg), (L.foldl std1 z) 7 = z 7 := by
    intro L
    induction L with
    | nil => intro z; rfl
    | cons e L ih =>
      intro z
      rw [List.foldl_cons, ih]
      unfold std1
      split
      · rfl
      · rfl
  intro s k h1 h2
  show ∃ g, g ≤ B ∧ (d.2.1.foldl std1 d.1) 7 s k = nI g
  rw [key]
  exact h s k h1 h2

theorem iX4_days_4 : ∀ w ∈ wsX40, w ∈ wsX4_days := by decide +kernel
theorem fX4_days_116 : Cond.fieldLink RX4 116 "SpareShelvesModel" "time" "I" ∈ wsX4_days := by decide +kernel
theorem fX4_days_110 : Cond.fieldLink RX4 110 "SpareShelvesModel" "asks" "I" ∈ wsX4_days := by decide +kernel
theorem fX4_days_32 : Cond.fieldLink RX4 32 "SpareShelvesModel" "stood" "[I" ∈ wsX4_days := by decide +kernel
theorem fX4_days_59 : Cond.fieldLink RX4 59 "SpareShelvesModel" "askShelf" "[I" ∈ wsX4_days := by decide +kernel
theorem fX4_days_65 : Cond.fieldLink RX4 65 "SpareShelvesModel" "askBy" "[I" ∈ wsX4_days := by decide +kernel
set_option maxHeartbeats 4000000 in
set_option maxRecDepth 100000 in
theorem m_days (l : Launch) (D : va_G) (cI cO : ClassId) (a : Nat → Nat) (v : MX) (Z : Sg) (d : Dy) (hRM : RM d v) (ns nk : Nat) (hz : Zv ns nk Z) (t : Nat) (hzx : Zx ns nk t Z) (hd : Dv ns nk Z (t + 1) d) (hph : Ph d ≤ 2500) (B : Nat) (hB : B < 900000000) (hG : Gd B d) (x : Int32) : CIm l yX4_days wsX4_days 10 264 D cI cO a v Z d [.int x] (daysP Z d x).1 (daysP Z d x).2.1 (daysP Z d x).2.2 := by
  unfold CIm
  refine CI.of (cc := cX4_days) (maxL := 5) (rt := .int) (by decide) rfl (Nat.le_of_ble_eq_true rfl) ?_
  intro C hgL hgD hw h hret
  have hn8 := hz.n8
  have hk8 := hz.k8
  refine g_iload_n h (pc := 0) dX4_days_0 1 rfl ?_
  refine g_iconst h (pc := 1) (v := 1) dX4_days_1 (by decide) ?_
  refine g_bipush h (pc := 2) (v := 60) dX4_days_2 (by decide) ?_
  refine g_scallR h (pc := 4) (As := [.int x, .int (1), .int (60)]) (st := []) dX4_days_4 (m_in (gL C) (gD C) cI cO x (1) (60)) [] rfl (by decide) gX4_days_X4_in rfl (show nPar yX4_in RX4 3 = true by decide +kernel) ⟨Nat.le_of_ble_eq_true rfl, Nat.le_of_ble_eq_true rfl⟩ rfl (Nat.le_of_ble_eq_true rfl) ⟨Nat.zero_le _, Nat.zero_le _⟩ (fun r hr => ?_)
  subst hr
  cases ho : outB x 1 60 with
  | true =>
    refine g_topi (y := 0) rfl ?_
    refine g_if_ne_f h (pc := 7) (tgt := 13) dX4_days_7 (by decide) rfl ?_
    refine g_bipush h (pc := 10) (v := (-2)) dX4_days_10 (by decide) ?_
    have e1 : (daysP Z d x) = (-2, Z, d) := by unfold daysP; rw [if_pos ho]
    rw [e1] at hret
    exact hret _ v dX4_days_12 rfl ⟨rfl, hRM⟩ rfl (Nat.zero_le _) (Nat.zero_le _)
  | false =>
    refine g_topi (y := 1) rfl ?_
    refine g_if_ne_t h (pc := 7) (tgt := 13) dX4_days_7 (by decide) (by decide) ?_
    refine g_aload_n h (pc := 13) dX4_days_13 0 rfl ?_
    refine g_get h (pc := 14) dX4_days_14 iX4_days_4 0 rfl rfl 12 (by decide) fX4_days_116 rfl ?_
    refine g_iload_n h (pc := 17) dX4_days_17 1 rfl ?_
    refine g_iadd h (pc := 18) dX4_days_18  ?_
    refine g_sipush h (pc := 19) (v := 5000) dX4_days_19 (by decide) ?_
    by_cases hfu : 5000 < Z 14 0 2 + x
    · refine g_icmp_le_f h (pc := 22) (tgt := 28) dX4_days_22 (by decide) (Int32.not_le.mpr hfu) ?_
      refine g_bipush h (pc := 25) (v := (-4)) dX4_days_25 (by decide) ?_
      have e1 : (daysP Z d x) = (-4, Z, d) := by unfold daysP; rw [if_neg (by rw [ho]; decide), if_pos hfu]
      rw [e1] at hret
      exact hret _ v dX4_days_27 rfl ⟨rfl, hRM⟩ rfl (Nat.zero_le _) (Nat.zero_le _)
    · refine g_icmp_le_t h (pc := 22) (tgt := 28) dX4_days_22 (by decide) (Int32.not_lt.mp hfu) ?_
      obtain ⟨j, hj1, hj2, rfl⟩ := outB_in (a := 1) (b := 60) ho rfl rfl (by omega) (by omega)
      have tj : tN (nI j) = j := nI_clamp (by omega)
      have e1 : (daysP Z d (nI j)) = ((dyN j (Z, d)).1 14 0 2, (dyN j (Z, d)).1, (dyN j (Z, d)).2) := by unfold daysP; rw [if_neg (by rw [ho]; decide), if_neg hfu, tj]
      rw [e1] at hret
      have ht5 := hzx.t5
      have htj : t + j ≤ 5000 := by
        rw [hzx.tt, nI_add, show (5000 : Int32) = nI 5000 from rfl] at hfu
        rcases Nat.lt_or_ge 5000 (t + j) with q | q
        · exact absurd (nI_lt q (by omega)) hfu
        · exact q
      refine g_iconst h (pc := 28) (v := 0) dX4_days_28 (by decide) ?_
      refine g_istore_n h (pc := 29) dX4_days_29 (by decide) rfl ?_
      suffices loop : ∀ (n i t1 : Nat) (Z1 : Sg) (d1 : Dy) (v1 : MX), i + n = j → t1 + n ≤ 5000 → dyN n (Z1, d1) = (dyN j (Z, d)) → Zx ns nk t1 Z1 → RM d1 v1 → Dv ns nk Z1 (t1 + 1) d1 → Ph d1 ≤ 2500 → Gd (B + 2500 * i) d1 → GG C 5 (mwd cI a v1 Z1 d1) 0 0 30 [(0, .ref (a 0)), (1, .int (nI j)), (2, .int (nI i))] [] from loop j 0 t Z d v (by omega) htj rfl hzx hRM hd hph hG
      intro n
      induction n with
      | zero =>
        intro i t1 Z1 d1 v1 h1 ht1 hm hz1 hR1 hd1 hp1 hG1
        refine g_iload_n h (pc := 30) dX4_days_30 2 rfl ?_
        refine g_iload_n h (pc := 31) dX4_days_31 1 rfl ?_
        refine g_icmp_ge_t h (pc := 32) (tgt := 113) dX4_days_32 (by decide) (nI_le (by omega) (by omega)) ?_
        rw [dyN] at hm
        rw [← hm] at hret
        refine g_aload_n h (pc := 113) dX4_days_113 0 rfl ?_
        refine g_get h (pc := 114) dX4_days_114 iX4_days_4 0 rfl rfl 12 (by decide) fX4_days_116 rfl ?_
        exact hret _ v1 dX4_days_117 rfl ⟨rfl, hR1⟩ rfl (Nat.zero_le _) (Nat.zero_le _)
      | succ n ih =>
        intro i t1 Z1 d1 v1 h1 ht1 hm hz1 hR1 hd1 hp1 hG1
        rw [dyN] at hm
        obtain ⟨k0, k1, k2, k3⟩ := day_ok hz1 (by omega) d1 hd1
        have k4 : (dy1 (Z1, d1)).2 = (stands (doAll (su Z1 14 0 2 (nI (t1 + 1))) d1.2.2.1.length d1)) := by show stands (doAll (su Z1 14 0 2 (Z1 14 0 2 + 1)) _ d1) = _; rw [hz1.tt, nI_1]
        rw [show dy1 (Z1, d1) = ((su Z1 14 0 2 (nI (t1 + 1))), (stands (doAll (su Z1 14 0 2 (nI (t1 + 1))) d1.2.2.1.length d1))) from Prod.ext k0 k4] at hm k1 k2 k3
        have hz2 : Zx ns nk (t1 + 1) (su Z1 14 0 2 (nI (t1 + 1))) := k1
        refine g_iload_n h (pc := 30) dX4_days_30 2 rfl ?_
        refine g_iload_n h (pc := 31) dX4_days_31 1 rfl ?_
        refine g_icmp_ge_f h (pc := 32) (tgt := 113) dX4_days_32 (by decide) (nI_ge (by omega) (by omega)) ?_
        refine g_aload_n h (pc := 35) dX4_days_35 0 rfl ?_
        refine g_dup h (pc := 36) dX4_days_36 rfl ?_
        refine g_get h (pc := 37) dX4_days_37 iX4_days_4 0 rfl rfl 12 (by decide) fX4_days_116 rfl ?_
        refine g_topi hz1.tt ?_
        refine g_iconst h (pc := 40) (v := 1) dX4_days_40 (by decide) ?_
        refine g_iadd h (pc := 41) dX4_days_41  ?_
        refine g_topi (nI_1 t1) ?_
        refine g_put h hw (pc := 42) (ws' := mw cI a v1 (su Z1 14 0 2 (nI (t1 + 1))) d1.1 (nI d1.2.1.length) (nI d1.2.2.1.length)) (ty := .int) dX4_days_42 iX4_days_4 tyX4 tyX4_ok nmX4 0 rfl rfl 12 (by decide) fX4_days_116 rfl (by decide +kernel) rfl rfl (Nat.le_of_ble_eq_true rfl) rfl ?_
        refine g_iconst h (pc := 45) (v := 1) dX4_days_45 (by decide) ?_
        refine g_istore_n h (pc := 46) dX4_days_46 (by decide) rfl ?_
        have hlen1 : d1.2.2.1.length ≤ 2500 := Nat.le_trans (Nat.le_trans (Nat.le_add_left _ _) (Ph_sz d1)) hp1
        obtain ⟨DA, hDA⟩ : ∃ DA, DA = (doAll (su Z1 14 0 2 (nI (t1 + 1))) d1.2.2.1.length d1) := ⟨_, rfl⟩
        rw [← hDA] at hm k2 k3
        generalize hZ2 : (su Z1 14 0 2 (nI (t1 + 1))) = Z2 at hm k2 hz2 hDA ⊢
        have af : ∀ (v2 : MX), RM DA v2 → Gd (B + 2500 * (i + 1)) DA → Dv ns nk Z2 (t1 + 1) DA → Ph DA ≤ 2500 → GG C 5 (mwd cI a v2 Z2 DA) 0 0 59 [(0, .ref (a 0)), (1, .int (nI j)), (2, .int (nI i)), (3, .int 0)] [] := by
          intro v2 hR2 hG2 hd2 hp2
          have hla : DA.2.1.length ≤ 2500 := Nat.le_trans (Nat.le_trans (Nat.le_add_right _ _) (Ph_sz DA)) hp2
          refine g_iconst h (pc := 59) (v := 0) dX4_days_59 (by decide) ?_
          refine g_istore h (pc := 60) dX4_days_60 (by decide) rfl ?_
          suffices lp2 : ∀ (m i2 : Nat), i2 + m = DA.2.1.length → GG C 5 (mw cI a v2 Z2 ((DA.2.1.take i2).foldl std1 DA.1) (nI DA.2.1.length) (nI DA.2.2.1.length)) 0 0 62 [(0, .ref (a 0)), (1, .int (nI j)), (2, .int (nI i)), (3, .int 0), (4, .int (nI i2))] [] from lp2 DA.2.1.length 0 (by omega)
          intro m
          induction m with
          | zero =>
            intro i2 h2
            refine g_iload h (pc := 62) dX4_days_62 4 rfl ?_
            refine g_aload_n h (pc := 64) dX4_days_64 0 rfl ?_
            refine g_get h (pc := 65) dX4_days_65 iX4_days_4 0 rfl rfl 18 (by decide) fX4_days_110 rfl ?_
            refine g_icmp_ge_t h (pc := 68) (tgt := 107) dX4_days_68 (by decide) (nI_le (by omega) (by omega)) ?_
            rw [List.take_of_length_le (by omega)]
            refine g_iinc h (pc := 107) dX4_days_107 2 rfl (nI_1 i) (by decide) rfl ?_
            refine g_goto h (pc := 110) (tgt := 30) dX4_days_110 (by decide) ?_
            refine g_lvp [0, 1, 2] rfl ?_
            exact ih (i + 1) (t1 + 1) Z2 (stands DA) v2 (by omega) (by omega) hm hz2 hR2 k2 (Nat.le_trans k3 hp1) (gd_stands hG2)
          | succ m ih2 =>
            intro i2 h2
            obtain ⟨e, he⟩ : ∃ e, DA.2.1[i2]? = some e := ⟨_, List.getElem?_eq_getElem (show i2 < DA.2.1.length by omega)⟩
            have hst : (DA.2.1.take (i2 + 1)).foldl std1 DA.1 = std1 ((DA.2.1.take i2).foldl std1 DA.1) e := by rw [List.take_add_one, he, List.foldl_append]; rfl
            have h9 := ih2 (i2 + 1) (by omega)
            rw [hst] at h9
            generalize (DA.2.1.take i2).foldl std1 DA.1 = zz at h9 ⊢
            obtain ⟨s, k, a1, a2, a3, a4, a5⟩ := hd2.1 e (List.mem_of_getElem? he)
            refine g_iload h (pc := 62) dX4_days_62 4 rfl ?_
            refine g_aload_n h (pc := 64) dX4_days_64 0 rfl ?_
            refine g_get h (pc := 65) dX4_days_65 iX4_days_4 0 rfl rfl 18 (by decide) fX4_days_110 rfl ?_
            refine g_icmp_ge_f h (pc := 68) (tgt := 107) dX4_days_68 (by decide) (nI_ge (by omega) (by omega)) ?_
            refine g_aload_n h (pc := 71) dX4_days_71 0 rfl ?_
            refine g_get h (pc := 72) dX4_days_72 iX4_days_4 0 rfl rfl 8 (by decide) fX4_days_32 rfl ?_
            refine g_aload_n h (pc := 75) dX4_days_75 0 rfl ?_
            refine g_get h (pc := 76) dX4_days_76 iX4_days_4 0 rfl rfl 19 (by decide) fX4_days_59 rfl ?_
            refine g_iload h (pc := 79) dX4_days_79 4 rfl ?_
            refine g_iald h (pc := 81) (v := nI s) dX4_days_81 15 rfl (vp_in_nI (by omega) (by omega)) (by rw [nI_clamp (by omega)]; exact (hR2.a he 0 (by decide)).trans a3) ?_
            refine g_dup2 h (pc := 82) dX4_days_82 rfl rfl ?_
            refine g_iald h (pc := 83) (v := zz 5 0 s) dX4_days_83 6 rfl (vp_in_nI (by omega) (by omega)) (by rw [nI_clamp (by omega)]) ?_
            refine g_aload_n h (pc := 84) dX4_days_84 0 rfl ?_
            refine g_get h (pc := 85) dX4_days_85 iX4_days_4 0 rfl rfl 21 (by decide) fX4_days_65 rfl ?_
            refine g_iload h (pc := 88) dX4_days_88 4 rfl ?_
            refine g_iald h (pc := 90) (v := col 2 e) dX4_days_90 17 rfl (vp_in_nI (by omega) (by omega)) (by rw [nI_clamp (by omega)]; exact hR2.a he 2 (by decide)) ?_
            unfold std1 at h9
            refine g_if_ne h (pc := 91) (tgt := 98) dX4_days_91 (by decide) (fun c1 => ?_) (fun c1 => ?_)
            · rw [if_neg c1] at h9
              refine g_iconst h (pc := 98) (v := 0) dX4_days_98 (by decide) ?_
              refine g_iadd h (pc := 99) dX4_days_99  ?_
              refine g_topi (Int32.add_zero _) ?_
              refine g_iast h hw (pc := 100) (ws' := mw cI a v2 Z2 (su zz 5 0 s (zz 5 0 s)) (nI DA.2.1.length) (nI DA.2.2.1.length)) dX4_days_100 6 rfl (vp_in_nI (by omega) (by omega)) (by rw [nI_clamp (by omega)]; rfl) ?_
              refine g_eq (ws' := mw cI a v2 Z2 zz (nI DA.2.1.length) (nI DA.2.2.1.length)) (by rw [su_same]) ?_
              refine g_iinc h (pc := 101) dX4_days_101 4 rfl (nI_1 i2) (by decide) rfl ?_
              refine g_goto h (pc := 104) (tgt := 62) dX4_days_104 (by decide) ?_
              exact h9
            · rw [if_pos c1, a3, nI_clamp (by omega)] at h9
              refine g_iconst h (pc := 94) (v := 1) dX4_days_94 (by decide) ?_
              refine g_goto h (pc := 95) (tgt := 99) dX4_days_95 (by decide) ?_
              refine g_iadd h (pc := 99) dX4_days_99  ?_
              refine g_iast h hw (pc := 100) (ws' := mw cI a v2 Z2 (su zz 5 0 s (zz 5 0 s + 1)) (nI DA.2.1.length) (nI DA.2.2.1.length)) dX4_days_100 6 rfl (vp_in_nI (by omega) (by omega)) (by rw [nI_clamp (by omega)]; rfl) ?_
              refine g_iinc h (pc := 101) dX4_days_101 4 rfl (nI_1 i2) (by decide) rfl ?_
              refine g_goto h (pc := 104) (tgt := 62) dX4_days_104 (by decide) ?_
              exact h9
        suffices more : ∀ (q B1 : Nat) (d2 : Dy) (v2 : MX), d2.2.2.1.countP (fun e => decide (col 3 e = Z2 14 0 2)) ≤ q → doAll Z2 q d2 = DA → B1 + q ≤ B + 2500 * (i + 1) → RM d2 v2 → Gd B1 d2 → Dv ns nk Z2 (t1 + 1) d2 → Ph d2 ≤ 2500 → GG C 5 (mwd cI a v2 Z2 d2) 0 0 47 [(0, .ref (a 0)), (1, .int (nI j)), (2, .int (nI i)), (3, .int 1)] [] from more d1.2.2.1.length (B + 2500 * i) d1 v1 List.countP_le_length hDA.symm (by omega) hR1 hG1 (by rw [← hZ2]; exact hd1) hp1
        intro q
        induction q with
        | zero =>
          intro B1 d2 v2 hc hda hb2 hR2 hG2 hd2 hp2
          have hs2 := Ph_sz d2
          refine g_iload_n h (pc := 47) dX4_days_47 3 rfl ?_
          refine g_if_eq_f h (pc := 48) (tgt := 59) dX4_days_48 (by decide) (by decide) ?_
          refine g_aload_n h (pc := 51) dX4_days_51 0 rfl ?_
          refine g_callI h (pc := 52) (As := []) (st := []) dX4_days_52 (m_isDone (gL C) (gD C) cI cO a v2 Z2 d2 hR2 ns nk hz2.v (by omega) B1 (by omega) hG2 (t1 + 1) hd2) hw gX4_days_X4_isDone rfl (q0 := 0) rfl rfl (show nPar yX4_isDone RX4 0 = true by decide +kernel) ⟨Nat.le_of_ble_eq_true rfl, Nat.le_of_ble_eq_true rfl⟩ rfl (Nat.le_of_ble_eq_true rfl) ⟨Nat.zero_le _, Nat.zero_le _⟩ (fun r v3 hR3 => ?_)
          obtain ⟨rfl, hR3⟩ := hR3
          cases hf : d2.2.2.1[fstT (Z2 14 0 2) d2.2.2.1]? with
          | none =>
            have e3 : isD Z2 d2 = (0, d2) := by unfold isD; rw [hf]
            rw [e3] at hR3 ⊢
            rw [doAll_no hf] at hda
            subst hda
            refine g_istore_n h (pc := 55) dX4_days_55 (by decide) rfl ?_
            refine g_goto h (pc := 56) (tgt := 47) dX4_days_56 (by decide) ?_
            refine g_iload_n h (pc := 47) dX4_days_47 3 rfl ?_
            refine g_if_eq_t h (pc := 48) (tgt := 59) dX4_days_48 (by decide) rfl ?_
            exact af v3 hR3 (hG2.le (by omega)) hd2 hp2
          | some e =>
            obtain ⟨g1, g2⟩ := List.getElem?_eq_some_iff.mp hf
            have g3 : decide (col 3 (d2.2.2.1[fstT (Z2 14 0 2) d2.2.2.1]'g1) = Z2 14 0 2) = true := List.findIdx_getElem (w := g1)
            rw [g2] at g3
            have h5 := cnt_era (fun e => decide (col 3 e = Z2 14 0 2)) d2.2.2.1 _ e hf g3
            exact absurd h5 (by omega)
        | succ q ihq =>
          intro B1 d2 v2 hc hda hb2 hR2 hG2 hd2 hp2
          have hs2 := Ph_sz d2
          refine g_iload_n h (pc := 47) dX4_days_47 3 rfl ?_
          refine g_if_eq_f h (pc := 48) (tgt := 59) dX4_days_48 (by decide) (by decide) ?_
          refine g_aload_n h (pc := 51) dX4_days_51 0 rfl ?_
          refine g_callI h (pc := 52) (As := []) (st := []) dX4_days_52 (m_isDone (gL C) (gD C) cI cO a v2 Z2 d2 hR2 ns nk hz2.v (by omega) B1 (by omega) hG2 (t1 + 1) hd2) hw gX4_days_X4_isDone rfl (q0 := 0) rfl rfl (show nPar yX4_isDone RX4 0 = true by decide +kernel) ⟨Nat.le_of_ble_eq_true rfl, Nat.le_of_ble_eq_true rfl⟩ rfl (Nat.le_of_ble_eq_true rfl) ⟨Nat.zero_le _, Nat.zero_le _⟩ (fun r v3 hR3 => ?_)
          obtain ⟨rfl, hR3⟩ := hR3
          cases hf : d2.2.2.1[fstT (Z2 14 0 2) d2.2.2.1]? with
          | none =>
            have e3 : isD Z2 d2 = (0, d2) := by unfold isD; rw [hf]
            rw [e3] at hR3 ⊢
            rw [doAll_no hf] at hda
            subst hda
            refine g_istore_n h (pc := 55) dX4_days_55 (by decide) rfl ?_
            refine g_goto h (pc := 56) (tgt := 47) dX4_days_56 (by decide) ?_
            refine g_iload_n h (pc := 47) dX4_days_47 3 rfl ?_
            refine g_if_eq_t h (pc := 48) (tgt := 59) dX4_days_48 (by decide) rfl ?_
            exact af v3 hR3 (hG2.le (by omega)) hd2 hp2
          | some e =>
            obtain ⟨g1, g2⟩ := List.getElem?_eq_some_iff.mp hf
            have g3 : decide (col 3 (d2.2.2.1[fstT (Z2 14 0 2) d2.2.2.1]'g1) = Z2 14 0 2) = true := List.findIdx_getElem (w := g1)
            rw [g2] at g3
            have h5 := cnt_era (fun e => decide (col 3 e = Z2 14 0 2)) d2.2.2.1 _ e hf g3
            obtain ⟨o1, o2, NU, o3, o4⟩ := does_ok hz2 d2 _ e hf (Nat.le_succ _) hd2
            have h6 : NU.countP (fun e => decide (col 3 e = Z2 14 0 2)) = 0 := List.countP_eq_zero.mpr (fun x hx q => late_ne hz2 (o4 x hx) (of_decide_eq_true q))
            have e3 : isD Z2 d2 = (1, does Z2 d2 (fstT (Z2 14 0 2) d2.2.2.1) e) := by unfold isD; rw [hf]
            rw [e3] at hR3 ⊢
            rw [doAll_so rfl hf] at hda
            refine g_istore_n h (pc := 55) dX4_days_55 (by decide) rfl ?_
            refine g_goto h (pc := 56) (tgt := 47) dX4_days_56 (by decide) ?_
            exact ihq (B1 + 1) _ v3 (by rw [o3, List.countP_append, h6]; omega) hda (by omega) hR3 (gd_does hz2.v hG2 (hd2.2 e (List.mem_of_getElem? hf))) o2 (Nat.le_trans o1 hp2)
