theorem iX4_waiting_4 : ∀ w ∈ wsX40, w ∈ wsX4_waiting := by decide +kernel
theorem fX4_waiting_110 : Cond.fieldLink RX4 110 "SpareShelvesModel" "asks" "I" ∈ wsX4_waiting := by decide +kernel
theorem fX4_waiting_59 : Cond.fieldLink RX4 59 "SpareShelvesModel" "askShelf" "[I" ∈ wsX4_waiting := by decide +kernel
theorem fX4_waiting_65 : Cond.fieldLink RX4 65 "SpareShelvesModel" "askBy" "[I" ∈ wsX4_waiting := by decide +kernel
theorem fX4_waiting_68 : Cond.fieldLink RX4 68 "SpareShelvesModel" "askOf" "[I" ∈ wsX4_waiting := by decide +kernel
set_option maxHeartbeats 4000000 in
set_option maxRecDepth 100000 in
theorem m_wait (l : Launch) (D : va_G) (cI cO : ClassId) (a : Nat → Nat) (v : MX) (Z : Sg) (d : Dy) (hRM : RM d v) (ns nk : Nat) (hz : Zv ns nk Z)  (hlA : d.2.1.length ≤ 5900) (s k : Nat) (hs : s < ns) (hk : k < nk) : CRm l yX4_waiting wsX4_waiting 0 0 D cI cO a v Z d [.int (nI s), .int (nI k)] (nI (d.2.1.countP (fitB (nI s) (-1) 2 (nI k)))) := by
  unfold CRm
  refine CR.of (cc := cX4_waiting) (maxL := 5) (rt := .int) (by decide) rfl (Nat.le_of_ble_eq_true rfl) ?_
  intro C hgL hgD h hret
  have hn8 := hz.n8
  have hk8 := hz.k8
  refine g_iconst h (pc := 0) (v := 0) dX4_waiting_0 (by decide) ?_
  refine g_istore_n h (pc := 1) dX4_waiting_1 (by decide) rfl ?_
  refine g_iconst h (pc := 2) (v := 0) dX4_waiting_2 (by decide) ?_
  refine g_istore h (pc := 3) dX4_waiting_3 (by decide) rfl ?_
  suffices loop : ∀ (m i : Nat), i + m = d.2.1.length → GG C 5 (mwd cI a v Z d) 0 0 5 [(0, .ref (a 0)), (1, .int (nI s)), (2, .int (nI k)), (3, .int (nI ((d.2.1.take i).countP (fitB (nI s) (-1) 2 (nI k))))), (4, .int (nI i))] [] from loop d.2.1.length 0 (by omega)
  intro m
  induction m with
  | zero =>
    intro i h1
    refine g_iload h (pc := 5) dX4_waiting_5 4 rfl ?_
    refine g_aload_n h (pc := 7) dX4_waiting_7 0 rfl ?_
    refine g_get h (pc := 8) dX4_waiting_8 iX4_waiting_4 0 rfl rfl 18 (by decide) fX4_waiting_110 rfl ?_
    refine g_icmp_ge_t h (pc := 11) (tgt := 61) dX4_waiting_11 (by decide) (nI_le (by omega) (by omega)) ?_
    refine g_iload_n h (pc := 61) dX4_waiting_61 3 rfl ?_
    exact hret _ dX4_waiting_62 rfl (by rw [List.take_of_length_le (by omega)])
  | succ m ih =>
    intro i h1
    obtain ⟨e, he⟩ : ∃ e, d.2.1[i]? = some e := ⟨_, List.getElem?_eq_getElem (show i < d.2.1.length by omega)⟩
    have h9 := ih (i + 1) (by omega)
    have ht : (d.2.1.take (i + 1)).countP (fitB (nI s) (-1) 2 (nI k)) = (d.2.1.take i).countP (fitB (nI s) (-1) 2 (nI k)) + (if (fitB (nI s) (-1) 2 (nI k)) e then 1 else 0) := by
      rw [List.take_add_one, he, List.countP_append]
      simp [List.countP_cons]
    rw [ht] at h9
    generalize (d.2.1.take i).countP (fitB (nI s) (-1) 2 (nI k)) = cn at h9 ⊢
    refine g_iload h (pc := 5) dX4_waiting_5 4 rfl ?_
    refine g_aload_n h (pc := 7) dX4_waiting_7 0 rfl ?_
    refine g_get h (pc := 8) dX4_waiting_8 iX4_waiting_4 0 rfl rfl 18 (by decide) fX4_waiting_110 rfl ?_
    refine g_icmp_ge_f h (pc := 11) (tgt := 61) dX4_waiting_11 (by decide) (nI_ge (by omega) (by omega)) ?_
    have t0 : (fitB (nI s) (-1) 2 (nI k)) e = false → GG C 5 (mwd cI a v Z d) 0 0 52 [(0, .ref (a 0)), (1, .int (nI s)), (2, .int (nI k)), (3, .int (nI cn)), (4, .int (nI i))] [.int (nI cn)] := by
      intro hp
      rw [hp] at h9
      refine g_iconst h (pc := 52) (v := 0) dX4_waiting_52 (by decide) ?_
      refine g_iadd h (pc := 53) dX4_waiting_53  ?_
      refine g_topi (y := nI (cn + 0)) (by rw [Nat.add_zero, Int32.add_zero]) ?_
      refine g_istore_n h (pc := 54) dX4_waiting_54 (by decide) rfl ?_
      refine g_iinc h (pc := 55) dX4_waiting_55 4 rfl (nI_1 i) (by decide) rfl ?_
      refine g_goto h (pc := 58) (tgt := 5) dX4_waiting_58 (by decide) ?_
      exact h9
    have t1 : (fitB (nI s) (-1) 2 (nI k)) e = true → GG C 5 (mwd cI a v Z d) 0 0 48 [(0, .ref (a 0)), (1, .int (nI s)), (2, .int (nI k)), (3, .int (nI cn)), (4, .int (nI i))] [.int (nI cn)] := by
      intro hp
      rw [hp] at h9
      refine g_iconst h (pc := 48) (v := 1) dX4_waiting_48 (by decide) ?_
      refine g_goto h (pc := 49) (tgt := 53) dX4_waiting_49 (by decide) ?_
      refine g_iadd h (pc := 53) dX4_waiting_53  ?_
      refine g_topi (y := nI (cn + 1)) (by exact nI_1 cn) ?_
      refine g_istore_n h (pc := 54) dX4_waiting_54 (by decide) rfl ?_
      refine g_iinc h (pc := 55) dX4_waiting_55 4 rfl (nI_1 i) (by decide) rfl ?_
      refine g_goto h (pc := 58) (tgt := 5) dX4_waiting_58 (by decide) ?_
      exact h9
    refine g_iload_n h (pc := 14) dX4_waiting_14 3 rfl ?_
    refine g_aload_n h (pc := 15) dX4_waiting_15 0 rfl ?_
    refine g_get h (pc := 16) dX4_waiting_16 iX4_waiting_4 0 rfl rfl 19 (by decide) fX4_waiting_59 rfl ?_
    refine g_iload h (pc := 19) dX4_waiting_19 4 rfl ?_
    refine g_iald h (pc := 21) (v := col 0 e) dX4_waiting_21 15 rfl (vp_in_nI (by omega) (by omega)) (by rw [nI_clamp (by omega)]; exact hRM.a he 0 (by decide)) ?_
    refine g_iload_n h (pc := 22) dX4_waiting_22 1 rfl ?_
    refine g_icmp_ne h (pc := 23) (tgt := 52) dX4_waiting_23 (by decide) (fun c1 => ?_) (fun c1 => ?_)
    · exact t0 (fitB_0 (nI_nm1 (by omega)) c1)
    · refine g_aload_n h (pc := 26) dX4_waiting_26 0 rfl ?_
      refine g_get h (pc := 27) dX4_waiting_27 iX4_waiting_4 0 rfl rfl 21 (by decide) fX4_waiting_65 rfl ?_
      refine g_iload h (pc := 30) dX4_waiting_30 4 rfl ?_
      refine g_iald h (pc := 32) (v := col 2 e) dX4_waiting_32 17 rfl (vp_in_nI (by omega) (by omega)) (by rw [nI_clamp (by omega)]; exact hRM.a he 2 (by decide)) ?_
      refine g_iconst h (pc := 33) (v := 2) dX4_waiting_33 (by decide) ?_
      refine g_icmp_ne h (pc := 34) (tgt := 52) dX4_waiting_34 (by decide) (fun c2 => ?_) (fun c2 => ?_)
      · exact t0 (fitB_2 (by decide) c2)
      · refine g_aload_n h (pc := 37) dX4_waiting_37 0 rfl ?_
        refine g_get h (pc := 38) dX4_waiting_38 iX4_waiting_4 0 rfl rfl 22 (by decide) fX4_waiting_68 rfl ?_
        refine g_iload h (pc := 41) dX4_waiting_41 4 rfl ?_
        refine g_iald h (pc := 43) (v := col 4 e) dX4_waiting_43 18 rfl (vp_in_nI (by omega) (by omega)) (by rw [nI_clamp (by omega)]; exact hRM.a he 3 (by decide)) ?_
        refine g_iload_n h (pc := 44) dX4_waiting_44 2 rfl ?_
        refine g_icmp_ne h (pc := 45) (tgt := 52) dX4_waiting_45 (by decide) (fun c3 => ?_) (fun c3 => ?_)
        · exact t0 (fitB_3 (nI_nm1 (by omega)) c3)
        · exact t1 (fitB_t (Or.inr c1) (Or.inl rfl) (Or.inr c2) (Or.inr c3))

theorem iX4_asksOf_4 : ∀ w ∈ wsX40, w ∈ wsX4_asksOf := by decide +kernel
theorem fX4_asksOf_110 : Cond.fieldLink RX4 110 "SpareShelvesModel" "asks" "I" ∈ wsX4_asksOf := by decide +kernel
theorem fX4_asksOf_59 : Cond.fieldLink RX4 59 "SpareShelvesModel" "askShelf" "[I" ∈ wsX4_asksOf := by decide +kernel
theorem fX4_asksOf_62 : Cond.fieldLink RX4 62 "SpareShelvesModel" "askKind" "[I" ∈ wsX4_asksOf := by decide +kernel
theorem fX4_asksOf_65 : Cond.fieldLink RX4 65 "SpareShelvesModel" "askBy" "[I" ∈ wsX4_asksOf := by decide +kernel
set_option maxHeartbeats 4000000 in
set_option maxRecDepth 100000 in
theorem m_asksOf (l : Launch) (D : va_G) (cI cO : ClassId) (a : Nat → Nat) (v : MX) (Z : Sg) (d : Dy) (hRM : RM d v) (ns nk : Nat) (hz : Zv ns nk Z)  (hlA : d.2.1.length ≤ 5900) (s k : Nat) (hs : s < ns) (hk : k < nk) (b : Int32) : CRm l yX4_asksOf wsX4_asksOf 0 0 D cI cO a v Z d [.int (nI s), .int (nI k), .int b] (nI (d.2.1.countP (fitB (nI s) (nI k) b (-1)))) := by
  unfold CRm
  refine CR.of (cc := cX4_asksOf) (maxL := 6) (rt := .int) (by decide) rfl (Nat.le_of_ble_eq_true rfl) ?_
  intro C hgL hgD h hret
  have hn8 := hz.n8
  have hk8 := hz.k8
  refine g_iconst h (pc := 0) (v := 0) dX4_asksOf_0 (by decide) ?_
  refine g_istore h (pc := 1) dX4_asksOf_1 (by decide) rfl ?_
  refine g_iconst h (pc := 3) (v := 0) dX4_asksOf_3 (by decide) ?_
  refine g_istore h (pc := 4) dX4_asksOf_4 (by decide) rfl ?_
  suffices loop : ∀ (m i : Nat), i + m = d.2.1.length → GG C 6 (mwd cI a v Z d) 0 0 6 [(0, .ref (a 0)), (1, .int (nI s)), (2, .int (nI k)), (3, .int b), (4, .int (nI ((d.2.1.take i).countP (fitB (nI s) (nI k) b (-1))))), (5, .int (nI i))] [] from loop d.2.1.length 0 (by omega)
  intro m
  induction m with
  | zero =>
    intro i h1
    refine g_iload h (pc := 6) dX4_asksOf_6 5 rfl ?_
    refine g_aload_n h (pc := 8) dX4_asksOf_8 0 rfl ?_
    refine g_get h (pc := 9) dX4_asksOf_9 iX4_asksOf_4 0 rfl rfl 18 (by decide) fX4_asksOf_110 rfl ?_
    refine g_icmp_ge_t h (pc := 12) (tgt := 69) dX4_asksOf_12 (by decide) (nI_le (by omega) (by omega)) ?_
    refine g_iload h (pc := 69) dX4_asksOf_69 4 rfl ?_
    exact hret _ dX4_asksOf_71 rfl (by rw [List.take_of_length_le (by omega)])
  | succ m ih =>
    intro i h1
    obtain ⟨e, he⟩ : ∃ e, d.2.1[i]? = some e := ⟨_, List.getElem?_eq_getElem (show i < d.2.1.length by omega)⟩
    have h9 := ih (i + 1) (by omega)
    have ht : (d.2.1.take (i + 1)).countP (fitB (nI s) (nI k) b (-1)) = (d.2.1.take i).countP (fitB (nI s) (nI k) b (-1)) + (if (fitB (nI s) (nI k) b (-1)) e then 1 else 0) := by
      rw [List.take_add_one, he, List.countP_append]
      simp [List.countP_cons]
    rw [ht] at h9
    generalize (d.2.1.take i).countP (fitB (nI s) (nI k) b (-1)) = cn at h9 ⊢
    refine g_iload h (pc := 6) dX4_asksOf_6 5 rfl ?_
    refine g_aload_n h (pc := 8) dX4_asksOf_8 0 rfl ?_
    refine g_get h (pc := 9) dX4_asksOf_9 iX4_asksOf_4 0 rfl rfl 18 (by decide) fX4_asksOf_110 rfl ?_
    refine g_icmp_ge_f h (pc := 12) (tgt := 69) dX4_asksOf_12 (by decide) (nI_ge (by omega) (by omega)) ?_
    have t0 : (fitB (nI s) (nI k) b (-1)) e = false → GG C 6 (mwd cI a v Z d) 0 0 59 [(0, .ref (a 0)), (1, .int (nI s)), (2, .int (nI k)), (3, .int b), (4, .int (nI cn)), (5, .int (nI i))] [.int (nI cn)] := by
      intro hp
      rw [hp] at h9
      refine g_iconst h (pc := 59) (v := 0) dX4_asksOf_59 (by decide) ?_
      refine g_iadd h (pc := 60) dX4_asksOf_60  ?_
      refine g_topi (y := nI (cn + 0)) (by rw [Nat.add_zero, Int32.add_zero]) ?_
      refine g_istore h (pc := 61) dX4_asksOf_61 (by decide) rfl ?_
      refine g_iinc h (pc := 63) dX4_asksOf_63 5 rfl (nI_1 i) (by decide) rfl ?_
      refine g_goto h (pc := 66) (tgt := 6) dX4_asksOf_66 (by decide) ?_
      exact h9
    have t1 : (fitB (nI s) (nI k) b (-1)) e = true → GG C 6 (mwd cI a v Z d) 0 0 55 [(0, .ref (a 0)), (1, .int (nI s)), (2, .int (nI k)), (3, .int b), (4, .int (nI cn)), (5, .int (nI i))] [.int (nI cn)] := by
      intro hp
      rw [hp] at h9
      refine g_iconst h (pc := 55) (v := 1) dX4_asksOf_55 (by decide) ?_
      refine g_goto h (pc := 56) (tgt := 60) dX4_asksOf_56 (by decide) ?_
      refine g_iadd h (pc := 60) dX4_asksOf_60  ?_
      refine g_topi (y := nI (cn + 1)) (by exact nI_1 cn) ?_
      refine g_istore h (pc := 61) dX4_asksOf_61 (by decide) rfl ?_
      refine g_iinc h (pc := 63) dX4_asksOf_63 5 rfl (nI_1 i) (by decide) rfl ?_
      refine g_goto h (pc := 66) (tgt := 6) dX4_asksOf_66 (by decide) ?_
      exact h9
    refine g_iload h (pc := 15) dX4_asksOf_15 4 rfl ?_
    refine g_aload_n h (pc := 17) dX4_asksOf_17 0 rfl ?_
    refine g_get h (pc := 18) dX4_asksOf_18 iX4_asksOf_4 0 rfl rfl 19 (by decide) fX4_asksOf_59 rfl ?_
    refine g_iload h (pc := 21) dX4_asksOf_21 5 rfl ?_
    refine g_iald h (pc := 23) (v := col 0 e) dX4_asksOf_23 15 rfl (vp_in_nI (by omega) (by omega)) (by rw [nI_clamp (by omega)]; exact hRM.a he 0 (by decide)) ?_
    refine g_iload_n h (pc := 24) dX4_asksOf_24 1 rfl ?_
    refine g_icmp_ne h (pc := 25) (tgt := 59) dX4_asksOf_25 (by decide) (fun c1 => ?_) (fun c1 => ?_)
    · exact t0 (fitB_0 (nI_nm1 (by omega)) c1)
    · refine g_aload_n h (pc := 28) dX4_asksOf_28 0 rfl ?_
      refine g_get h (pc := 29) dX4_asksOf_29 iX4_asksOf_4 0 rfl rfl 20 (by decide) fX4_asksOf_62 rfl ?_
      refine g_iload h (pc := 32) dX4_asksOf_32 5 rfl ?_
      refine g_iald h (pc := 34) (v := col 1 e) dX4_asksOf_34 16 rfl (vp_in_nI (by omega) (by omega)) (by rw [nI_clamp (by omega)]; exact hRM.a he 1 (by decide)) ?_
      refine g_iload_n h (pc := 35) dX4_asksOf_35 2 rfl ?_
      refine g_icmp_ne h (pc := 36) (tgt := 59) dX4_asksOf_36 (by decide) (fun c2 => ?_) (fun c2 => ?_)
      · exact t0 (fitB_1 (nI_nm1 (by omega)) c2)
      · refine g_iload_n h (pc := 39) dX4_asksOf_39 3 rfl ?_
        refine g_iconst h (pc := 40) (v := (-1)) dX4_asksOf_40 (by decide) ?_
        refine g_icmp_eq h (pc := 41) (tgt := 55) dX4_asksOf_41 (by decide) (fun c3 => ?_) (fun c3 => ?_)
        · exact t1 (fitB_t (Or.inr c1) (Or.inr c2) (Or.inl c3) (Or.inl rfl))
        · refine g_aload_n h (pc := 44) dX4_asksOf_44 0 rfl ?_
          refine g_get h (pc := 45) dX4_asksOf_45 iX4_asksOf_4 0 rfl rfl 21 (by decide) fX4_asksOf_65 rfl ?_
          refine g_iload h (pc := 48) dX4_asksOf_48 5 rfl ?_
          refine g_iald h (pc := 50) (v := col 2 e) dX4_asksOf_50 17 rfl (vp_in_nI (by omega) (by omega)) (by rw [nI_clamp (by omega)]; exact hRM.a he 2 (by decide)) ?_
          refine g_iload_n h (pc := 51) dX4_asksOf_51 3 rfl ?_
          refine g_icmp_ne h (pc := 52) (tgt := 59) dX4_asksOf_52 (by decide) (fun c4 => ?_) (fun c4 => ?_)
          · exact t0 (fitB_2 c3 c4)
          · exact t1 (fitB_t (Or.inr c1) (Or.inr c2) (Or.inr c4) (Or.inl rfl))

theorem iX4_duesOf_4 : ∀ w ∈ wsX40, w ∈ wsX4_duesOf := by decide +kernel
theorem fX4_duesOf_113 : Cond.fieldLink RX4 113 "SpareShelvesModel" "dues" "I" ∈ wsX4_duesOf := by decide +kernel
theorem fX4_duesOf_80 : Cond.fieldLink RX4 80 "SpareShelvesModel" "dueKind" "[I" ∈ wsX4_duesOf := by decide +kernel
theorem fX4_duesOf_74 : Cond.fieldLink RX4 74 "SpareShelvesModel" "dueSort" "[I" ∈ wsX4_duesOf := by decide +kernel
theorem fX4_duesOf_77 : Cond.fieldLink RX4 77 "SpareShelvesModel" "dueShelf" "[I" ∈ wsX4_duesOf := by decide +kernel
set_option maxHeartbeats 4000000 in
set_option maxRecDepth 100000 in
theorem m_duesOf (l : Launch) (D : va_G) (cI cO : ClassId) (a : Nat → Nat) (v : MX) (Z : Sg) (d : Dy) (hRM : RM d v) (ns nk : Nat) (hz : Zv ns nk Z)  (hlU : d.2.2.1.length ≤ 5900) (s : Int32) (k : Nat) (hk : k < nk) (so : Int32) : CRm l yX4_duesOf wsX4_duesOf 0 0 D cI cO a v Z d [.int s, .int (nI k), .int so] (nI (d.2.2.1.countP (duc s (nI k) so))) := by
  unfold CRm
  refine CR.of (cc := cX4_duesOf) (maxL := 6) (rt := .int) (by decide) rfl (Nat.le_of_ble_eq_true rfl) ?_
  intro C hgL hgD h hret
  have hn8 := hz.n8
  have hk8 := hz.k8
  refine g_iconst h (pc := 0) (v := 0) dX4_duesOf_0 (by decide) ?_
  refine g_istore h (pc := 1) dX4_duesOf_1 (by decide) rfl ?_
  refine g_iconst h (pc := 3) (v := 0) dX4_duesOf_3 (by decide) ?_
  refine g_istore h (pc := 4) dX4_duesOf_4 (by decide) rfl ?_
  suffices loop : ∀ (m i : Nat), i + m = d.2.2.1.length → GG C 6 (mwd cI a v Z d) 0 0 6 [(0, .ref (a 0)), (1, .int s), (2, .int (nI k)), (3, .int so), (4, .int (nI ((d.2.2.1.take i).countP (duc s (nI k) so)))), (5, .int (nI i))] [] from loop d.2.2.1.length 0 (by omega)
  intro m
  induction m with
  | zero =>
    intro i h1
    refine g_iload h (pc := 6) dX4_duesOf_6 5 rfl ?_
    refine g_aload_n h (pc := 8) dX4_duesOf_8 0 rfl ?_
    refine g_get h (pc := 9) dX4_duesOf_9 iX4_duesOf_4 0 rfl rfl 24 (by decide) fX4_duesOf_113 rfl ?_
    refine g_icmp_ge_t h (pc := 12) (tgt := 69) dX4_duesOf_12 (by decide) (nI_le (by omega) (by omega)) ?_
    refine g_iload h (pc := 69) dX4_duesOf_69 4 rfl ?_
    exact hret _ dX4_duesOf_71 rfl (by rw [List.take_of_length_le (by omega)])
  | succ m ih =>
    intro i h1
    obtain ⟨e, he⟩ : ∃ e, d.2.2.1[i]? = some e := ⟨_, List.getElem?_eq_getElem (show i < d.2.2.1.length by omega)⟩
    have h9 := ih (i + 1) (by omega)
    have ht : (d.2.2.1.take (i + 1)).countP (duc s (nI k) so) = (d.2.2.1.take i).countP (duc s (nI k) so) + (if (duc s (nI k) so) e then 1 else 0) := by
      rw [List.take_add_one, he, List.countP_append]
      simp [List.countP_cons]
    rw [ht] at h9
    generalize (d.2.2.1.take i).countP (duc s (nI k) so) = cn at h9 ⊢
    refine g_iload h (pc := 6) dX4_duesOf_6 5 rfl ?_
    refine g_aload_n h (pc := 8) dX4_duesOf_8 0 rfl ?_
    refine g_get h (pc := 9) dX4_duesOf_9 iX4_duesOf_4 0 rfl rfl 24 (by decide) fX4_duesOf_113 rfl ?_
    refine g_icmp_ge_f h (pc := 12) (tgt := 69) dX4_duesOf_12 (by decide) (nI_ge (by omega) (by omega)) ?_
    have t0 : (duc s (nI k) so) e = false → GG C 6 (mwd cI a v Z d) 0 0 59 [(0, .ref (a 0)), (1, .int s), (2, .int (nI k)), (3, .int so), (4, .int (nI cn)), (5, .int (nI i))] [.int (nI cn)] := by
      intro hp
      rw [hp] at h9
      refine g_iconst h (pc := 59) (v := 0) dX4_duesOf_59 (by decide) ?_
      refine g_iadd h (pc := 60) dX4_duesOf_60  ?_
      refine g_topi (y := nI (cn + 0)) (by rw [Nat.add_zero, Int32.add_zero]) ?_
      refine g_istore h (pc := 61) dX4_duesOf_61 (by decide) rfl ?_
      refine g_iinc h (pc := 63) dX4_duesOf_63 5 rfl (nI_1 i) (by decide) rfl ?_
      refine g_goto h (pc := 66) (tgt := 6) dX4_duesOf_66 (by decide) ?_
      exact h9
    have t1 : (duc s (nI k) so) e = true → GG C 6 (mwd cI a v Z d) 0 0 55 [(0, .ref (a 0)), (1, .int s), (2, .int (nI k)), (3, .int so), (4, .int (nI cn)), (5, .int (nI i))] [.int (nI cn)] := by
      intro hp
      rw [hp] at h9
      refine g_iconst h (pc := 55) (v := 1) dX4_duesOf_55 (by decide) ?_
      refine g_goto h (pc := 56) (tgt := 60) dX4_duesOf_56 (by decide) ?_
      refine g_iadd h (pc := 60) dX4_duesOf_60  ?_
      refine g_topi (y := nI (cn + 1)) (by exact nI_1 cn) ?_
      refine g_istore h (pc := 61) dX4_duesOf_61 (by decide) rfl ?_
      refine g_iinc h (pc := 63) dX4_duesOf_63 5 rfl (nI_1 i) (by decide) rfl ?_
      refine g_goto h (pc := 66) (tgt := 6) dX4_duesOf_66 (by decide) ?_
      exact h9
    refine g_iload h (pc := 15) dX4_duesOf_15 4 rfl ?_
    refine g_iload_n h (pc := 17) dX4_duesOf_17 1 rfl ?_
    refine g_iconst h (pc := 18) (v := (-1)) dX4_duesOf_18 (by decide) ?_
    have s2 : (s = -1 ∨ col 0 e = s) → GG C 6 (mwd cI a v Z d) 0 0 33 [(0, .ref (a 0)), (1, .int s), (2, .int (nI k)), (3, .int so), (4, .int (nI cn)), (5, .int (nI i))] [.int (nI cn)] := by
      intro hq
      refine g_aload_n h (pc := 33) dX4_duesOf_33 0 rfl ?_
      refine g_get h (pc := 34) dX4_duesOf_34 iX4_duesOf_4 0 rfl rfl 27 (by decide) fX4_duesOf_80 rfl ?_
      refine g_iload h (pc := 37) dX4_duesOf_37 5 rfl ?_
      refine g_iald h (pc := 39) (v := col 1 e) dX4_duesOf_39 22 rfl (vp_in_nI (by omega) (by omega)) (by rw [nI_clamp (by omega)]; exact hRM.u he 2 (by decide)) ?_
      refine g_iload_n h (pc := 40) dX4_duesOf_40 2 rfl ?_
      refine g_icmp_ne h (pc := 41) (tgt := 59) dX4_duesOf_41 (by decide) (fun c2 => ?_) (fun c2 => ?_)
      · exact t0 (decide_eq_false (fun z => c2 (z.2.1.resolve_left (nI_nm1 (by omega)))))
      · refine g_aload_n h (pc := 44) dX4_duesOf_44 0 rfl ?_
        refine g_get h (pc := 45) dX4_duesOf_45 iX4_duesOf_4 0 rfl rfl 25 (by decide) fX4_duesOf_74 rfl ?_
        refine g_iload h (pc := 48) dX4_duesOf_48 5 rfl ?_
        refine g_iald h (pc := 50) (v := col 2 e) dX4_duesOf_50 20 rfl (vp_in_nI (by omega) (by omega)) (by rw [nI_clamp (by omega)]; exact hRM.u he 0 (by decide)) ?_
        refine g_iload_n h (pc := 51) dX4_duesOf_51 3 rfl ?_
        refine g_icmp_ne h (pc := 52) (tgt := 59) dX4_duesOf_52 (by decide) (fun c3 => ?_) (fun c3 => ?_)
        · exact t0 (decide_eq_false (fun z => c3 z.2.2))
        · exact t1 (decide_eq_true ⟨hq, Or.inr c2, c3⟩)
    refine g_icmp_eq h (pc := 19) (tgt := 33) dX4_duesOf_19 (by decide) (fun c1 => ?_) (fun c1 => ?_)
    · exact s2 (Or.inl c1)
    · refine g_aload_n h (pc := 22) dX4_duesOf_22 0 rfl ?_
      refine g_get h (pc := 23) dX4_duesOf_23 iX4_duesOf_4 0 rfl rfl 26 (by decide) fX4_duesOf_77 rfl ?_
      refine g_iload h (pc := 26) dX4_duesOf_26 5 rfl ?_
      refine g_iald h (pc := 28) (v := col 0 e) dX4_duesOf_28 21 rfl (vp_in_nI (by omega) (by omega)) (by rw [nI_clamp (by omega)]; exact hRM.u he 1 (by decide)) ?_
      refine g_iload_n h (pc := 29) dX4_duesOf_29 1 rfl ?_
      refine g_icmp_ne h (pc := 30) (tgt := 59) dX4_duesOf_30 (by decide) (fun c4 => ?_) (fun c4 => ?_)
      · exact t0 (decide_eq_false (fun z => z.1.elim c1 c4))
      · exact s2 (Or.inr c4)

theorem iX4_standing_4 : ∀ w ∈ wsX40, w ∈ wsX4_standing := by decide +kernel
theorem fX4_standing_110 : Cond.fieldLink RX4 110 "SpareShelvesModel" "asks" "I" ∈ wsX4_standing := by decide +kernel
theorem fX4_standing_65 : Cond.fieldLink RX4 65 "SpareShelvesModel" "askBy" "[I" ∈ wsX4_standing := by decide +kernel
theorem fX4_standing_59 : Cond.fieldLink RX4 59 "SpareShelvesModel" "askShelf" "[I" ∈ wsX4_standing := by decide +kernel
set_option maxHeartbeats 4000000 in
set_option maxRecDepth 100000 in
theorem m_standing (l : Launch) (D : va_G) (cI cO : ClassId) (a : Nat → Nat) (v : MX) (Z : Sg) (d : Dy) (hRM : RM d v) (ns nk : Nat) (hz : Zv ns nk Z)  (hlA : d.2.1.length ≤ 5900) (s : Int32) : CRm l yX4_standing wsX4_standing 0 0 D cI cO a v Z d [.int s] (nI (d.2.1.countP (fitB s (-1) 0 (-1)))) := by
  unfold CRm
  refine CR.of (cc := cX4_standing) (maxL := 4) (rt := .int) (by decide) rfl (Nat.le_of_ble_eq_true rfl) ?_
  intro C hgL hgD h hret
  have hn8 := hz.n8
  have hk8 := hz.k8
  refine g_iconst h (pc := 0) (v := 0) dX4_standing_0 (by decide) ?_
  refine g_istore_n h (pc := 1) dX4_standing_1 (by decide) rfl ?_
  refine g_iconst h (pc := 2) (v := 0) dX4_standing_2 (by decide) ?_
  refine g_istore_n h (pc := 3) dX4_standing_3 (by decide) rfl ?_
  suffices loop : ∀ (m i : Nat), i + m = d.2.1.length → GG C 4 (mwd cI a v Z d) 0 0 4 [(0, .ref (a 0)), (1, .int s), (2, .int (nI ((d.2.1.take i).countP (fitB s (-1) 0 (-1))))), (3, .int (nI i))] [] from loop d.2.1.length 0 (by omega)
  intro m
  induction m with
  | zero =>
    intro i h1
    refine g_iload_n h (pc := 4) dX4_standing_4 3 rfl ?_
    refine g_aload_n h (pc := 5) dX4_standing_5 0 rfl ?_
    refine g_get h (pc := 6) dX4_standing_6 iX4_standing_4 0 rfl rfl 18 (by decide) fX4_standing_110 rfl ?_
    refine g_icmp_ge_t h (pc := 9) (tgt := 50) dX4_standing_9 (by decide) (nI_le (by omega) (by omega)) ?_
    refine g_iload_n h (pc := 50) dX4_standing_50 2 rfl ?_
    exact hret _ dX4_standing_51 rfl (by rw [List.take_of_length_le (by omega)])
  | succ m ih =>
    intro i h1
    obtain ⟨e, he⟩ : ∃ e, d.2.1[i]? = some e := ⟨_, List.getElem?_eq_getElem (show i < d.2.1.length by omega)⟩
    have h9 := ih (i + 1) (by omega)
    have ht : (d.2.1.take (i + 1)).countP (fitB s (-1) 0 (-1)) = (d.2.1.take i).countP (fitB s (-1) 0 (-1)) + (if (fitB s (-1) 0 (-1)) e then 1 else 0) := by
      rw [List.take_add_one, he, List.countP_append]
      simp [List.countP_cons]
    rw [ht] at h9
    generalize (d.2.1.take i).countP (fitB s (-1) 0 (-1)) = cn at h9 ⊢
    refine g_iload_n h (pc := 4) dX4_standing_4 3 rfl ?_
    refine g_aload_n h (pc := 5) dX4_standing_5 0 rfl ?_
    refine g_get h (pc := 6) dX4_standing_6 iX4_standing_4 0 rfl rfl 18 (by decide) fX4_standing_110 rfl ?_
    refine g_icmp_ge_f h (pc := 9) (tgt := 50) dX4_standing_9 (by decide) (nI_ge (by omega) (by omega)) ?_
    have t0 : (fitB s (-1) 0 (-1)) e = false → GG C 4 (mwd cI a v Z d) 0 0 41 [(0, .ref (a 0)), (1, .int s), (2, .int (nI cn)), (3, .int (nI i))] [.int (nI cn)] := by
      intro hp
      rw [hp] at h9
      refine g_iconst h (pc := 41) (v := 0) dX4_standing_41 (by decide) ?_
      refine g_iadd h (pc := 42) dX4_standing_42  ?_
      refine g_topi (y := nI (cn + 0)) (by rw [Nat.add_zero, Int32.add_zero]) ?_
      refine g_istore_n h (pc := 43) dX4_standing_43 (by decide) rfl ?_
      refine g_iinc h (pc := 44) dX4_standing_44 3 rfl (nI_1 i) (by decide) rfl ?_
      refine g_goto h (pc := 47) (tgt := 4) dX4_standing_47 (by decide) ?_
      exact h9
    have t1 : (fitB s (-1) 0 (-1)) e = true → GG C 4 (mwd cI a v Z d) 0 0 37 [(0, .ref (a 0)), (1, .int s), (2, .int (nI cn)), (3, .int (nI i))] [.int (nI cn)] := by
      intro hp
      rw [hp] at h9
      refine g_iconst h (pc := 37) (v := 1) dX4_standing_37 (by decide) ?_
      refine g_goto h (pc := 38) (tgt := 42) dX4_standing_38 (by decide) ?_
      refine g_iadd h (pc := 42) dX4_standing_42  ?_
      refine g_topi (y := nI (cn + 1)) (by exact nI_1 cn) ?_
      refine g_istore_n h (pc := 43) dX4_standing_43 (by decide) rfl ?_
      refine g_iinc h (pc := 44) dX4_standing_44 3 rfl (nI_1 i) (by decide) rfl ?_
      refine g_goto h (pc := 47) (tgt := 4) dX4_standing_47 (by decide) ?_
      exact h9
    refine g_iload_n h (pc := 12) dX4_standing_12 2 rfl ?_
    refine g_aload_n h (pc := 13) dX4_standing_13 0 rfl ?_
    refine g_get h (pc := 14) dX4_standing_14 iX4_standing_4 0 rfl rfl 21 (by decide) fX4_standing_65 rfl ?_
    refine g_iload_n h (pc := 17) dX4_standing_17 3 rfl ?_
    refine g_iald h (pc := 18) (v := col 2 e) dX4_standing_18 17 rfl (vp_in_nI (by omega) (by omega)) (by rw [nI_clamp (by omega)]; exact hRM.a he 2 (by decide)) ?_
    refine g_if_ne h (pc := 19) (tgt := 41) dX4_standing_19 (by decide) (fun c1 => ?_) (fun c1 => ?_)
    · exact t0 (fitB_2 (by decide) c1)
    · refine g_iload_n h (pc := 22) dX4_standing_22 1 rfl ?_
      refine g_iconst h (pc := 23) (v := (-1)) dX4_standing_23 (by decide) ?_
      refine g_icmp_eq h (pc := 24) (tgt := 37) dX4_standing_24 (by decide) (fun c2 => ?_) (fun c2 => ?_)
      · exact t1 (fitB_t (Or.inl c2) (Or.inl rfl) (Or.inr c1) (Or.inl rfl))
      · refine g_aload_n h (pc := 27) dX4_standing_27 0 rfl ?_
        refine g_get h (pc := 28) dX4_standing_28 iX4_standing_4 0 rfl rfl 19 (by decide) fX4_standing_59 rfl ?_
        refine g_iload_n h (pc := 31) dX4_standing_31 3 rfl ?_
        refine g_iald h (pc := 32) (v := col 0 e) dX4_standing_32 15 rfl (vp_in_nI (by omega) (by omega)) (by rw [nI_clamp (by omega)]; exact hRM.a he 0 (by decide)) ?_
        refine g_iload_n h (pc := 33) dX4_standing_33 1 rfl ?_
        refine g_icmp_ne h (pc := 34) (tgt := 41) dX4_standing_34 (by decide) (fun c3 => ?_) (fun c3 => ?_)
        · exact t0 (fitB_0 c2 c3)
        · exact t1 (fitB_t (Or.inr c3) (Or.inl rfl) (Or.inr c1) (Or.inl rfl))

theorem iX4_lands_4 : ∀ w ∈ wsX40, w ∈ wsX4_lands := by decide +kernel
theorem fX4_lands_110 : Cond.fieldLink RX4 110 "SpareShelvesModel" "asks" "I" ∈ wsX4_lands := by decide +kernel
theorem fX4_lands_38 : Cond.fieldLink RX4 38 "SpareShelvesModel" "good" "[I" ∈ wsX4_lands := by decide +kernel
theorem fX4_lands_65 : Cond.fieldLink RX4 65 "SpareShelvesModel" "askBy" "[I" ∈ wsX4_lands := by decide +kernel
theorem fX4_lands_68 : Cond.fieldLink RX4 68 "SpareShelvesModel" "askOf" "[I" ∈ wsX4_lands := by decide +kernel
theorem fX4_lands_59 : Cond.fieldLink RX4 59 "SpareShelvesModel" "askShelf" "[I" ∈ wsX4_lands := by decide +kernel
theorem fX4_lands_62 : Cond.fieldLink RX4 62 "SpareShelvesModel" "askKind" "[I" ∈ wsX4_lands := by decide +kernel
theorem fX4_lands_71 : Cond.fieldLink RX4 71 "SpareShelvesModel" "askSince" "[I" ∈ wsX4_lands := by decide +kernel
set_option maxHeartbeats 4000000 in
set_option maxRecDepth 100000 in
theorem m_lands (l : Launch) (D : va_G) (cI cO : ClassId) (a : Nat → Nat) (v : MX) (Z : Sg) (d : Dy) (hRM : RM d v) (ns nk : Nat) (hz : Zv ns nk Z)  (hsz : sz d ≤ 5600) (B : Nat) (hB : B < 1000000000) (hG : Gd B d) (hA : ∀ e ∈ d.2.1, okA ns nk Z e) (s k : Nat) (hs : s < ns) (hk : k < nk) : CVm l yX4_lands wsX4_lands 5 130 D cI cO a v Z d [.int (nI s), .int (nI k)] Z (lands Z d s k) := by
  unfold CVm
  refine CV.of (cc := cX4_lands) (maxL := 7) (by decide) rfl (Nat.le_of_ble_eq_true rfl) ?_
  intro C hgL hgD hw h hret
  have hn8 := hz.n8
  have hk8 := hz.k8
  have hla : d.2.1.length ≤ sz d := Nat.le_add_right _ _
  refine g_iconst h (pc := 0) (v := 0) dX4_lands_0 (by decide) ?_
  refine g_istore_n h (pc := 1) dX4_lands_1 (by decide) rfl ?_
  have no : fst2 s k d.2.1 = d.2.1.length → GG C 7 (mwd cI a v Z d) 0 0 36 [(0, .ref (a 0)), (1, .int (nI s)), (2, .int (nI k)), (3, .int (nI d.2.1.length))] [] := by
    intro hf
    have e1 : lands Z d s k = dG d 7 s k (d.1 7 s k + 1) := by unfold lands; rw [hf, List.getElem?_eq_none (Nat.le_refl _)]
    rw [e1] at hret
    refine g_iload_n h (pc := 36) dX4_lands_36 3 rfl ?_
    refine g_aload_n h (pc := 37) dX4_lands_37 0 rfl ?_
    refine g_get h (pc := 38) dX4_lands_38 iX4_lands_4 0 rfl rfl 18 (by decide) fX4_lands_110 rfl ?_
    refine g_icmp_ne_f h (pc := 41) (tgt := 60) dX4_lands_41 (by decide) rfl ?_
    refine g_aload_n h (pc := 44) dX4_lands_44 0 rfl ?_
    refine g_get h (pc := 45) dX4_lands_45 iX4_lands_4 0 rfl rfl 10 (by decide) fX4_lands_38 rfl ?_
    refine g_bipush h (pc := 48) (v := 8) dX4_lands_48 (by decide) ?_
    refine g_iload_n h (pc := 50) dX4_lands_50 1 rfl ?_
    refine g_imul h (pc := 51) dX4_lands_51  ?_
    refine g_iload_n h (pc := 52) dX4_lands_52 2 rfl ?_
    refine g_iadd h (pc := 53) dX4_lands_53  ?_
    refine g_topi (nI_83 s k) ?_
    refine g_dup2 h (pc := 54) dX4_lands_54 rfl rfl ?_
    refine g_iald h (pc := 55) (v := d.1 7 s k) dX4_lands_55 8 rfl (vp_in_nI (by omega) (by omega)) (by rw [nI_clamp (by omega)]; exact fl2_at _ (by omega)) ?_
    refine g_iconst h (pc := 56) (v := 1) dX4_lands_56 (by decide) ?_
    refine g_iadd h (pc := 57) dX4_lands_57  ?_
    refine g_iast h hw (pc := 58) (ws' := mw cI a v Z (su d.1 7 s k (d.1 7 s k + 1)) (nI d.2.1.length) (nI d.2.2.1.length)) dX4_lands_58 8 rfl (vp_in_nI (by omega) (by omega)) (by rw [nI_clamp (by omega)]; exact mw_gs cI a v Z d.1 (nI d.2.1.length) (nI d.2.2.1.length) s (by omega) _) ?_
    exact hret v dX4_lands_59 hRM rfl (Nat.le_refl _) (Nat.le_refl _)
  have yes : ∀ (i : Nat) (e : E5), fst2 s k d.2.1 = i → d.2.1[i]? = some e → GG C 7 (mwd cI a v Z d) 0 0 36 [(0, .ref (a 0)), (1, .int (nI s)), (2, .int (nI k)), (3, .int (nI i))] [] := by
    intro i e hi he
    have hlt : i < d.2.1.length := (List.getElem?_eq_some_iff.mp he).1
    have e1 : lands Z d s k = serve Z (xA d i) s k e := by unfold lands; rw [hi, he]
    have h0 := (fst2_some (by rw [hi]; exact he)).1
    obtain ⟨s2, k2, a1, a2, a3, a4, a5⟩ := hA e (List.mem_of_getElem? he)
    have es : s2 = s := (nI_eq (by omega) (by omega)).mp (a3.symm.trans h0)
    subst es
    have ez := sz_xA d i
    have hle : (xA d i).2.1.length = d.2.1.length - 1 := List.length_eraseIdx_of_lt hlt
    refine g_iload_n h (pc := 36) dX4_lands_36 3 rfl ?_
    refine g_aload_n h (pc := 37) dX4_lands_37 0 rfl ?_
    refine g_get h (pc := 38) dX4_lands_38 iX4_lands_4 0 rfl rfl 18 (by decide) fX4_lands_110 rfl ?_
    refine g_icmp_ne_t h (pc := 41) (tgt := 60) dX4_lands_41 (by decide) (fun q => absurd ((nI_eq (by omega) (by omega)).mp q) (by omega)) ?_
    refine g_aload_n h (pc := 60) dX4_lands_60 0 rfl ?_
    refine g_get h (pc := 61) dX4_lands_61 iX4_lands_4 0 rfl rfl 21 (by decide) fX4_lands_65 rfl ?_
    refine g_iload_n h (pc := 64) dX4_lands_64 3 rfl ?_
    refine g_iald h (pc := 65) (v := col 2 e) dX4_lands_65 17 rfl (vp_in_nI (by omega) (by omega)) (by rw [nI_clamp (by omega)]; exact hRM.a he 2 (by decide)) ?_
    refine g_istore h (pc := 66) dX4_lands_66 (by decide) rfl ?_
    refine g_aload_n h (pc := 68) dX4_lands_68 0 rfl ?_
    refine g_get h (pc := 69) dX4_lands_69 iX4_lands_4 0 rfl rfl 22 (by decide) fX4_lands_68 rfl ?_
    refine g_iload_n h (pc := 72) dX4_lands_72 3 rfl ?_
    refine g_iald h (pc := 73) (v := col 4 e) dX4_lands_73 18 rfl (vp_in_nI (by omega) (by omega)) (by rw [nI_clamp (by omega)]; exact hRM.a he 3 (by decide)) ?_
    refine g_istore h (pc := 74) dX4_lands_74 (by decide) rfl ?_
    refine g_aload_n h (pc := 76) dX4_lands_76 0 rfl ?_
    refine g_dup h (pc := 77) dX4_lands_77 rfl ?_
    refine g_get h (pc := 78) dX4_lands_78 iX4_lands_4 0 rfl rfl 18 (by decide) fX4_lands_110 rfl ?_
    refine g_iconst h (pc := 81) (v := 1) dX4_lands_81 (by decide) ?_
    refine g_isub h (pc := 82) dX4_lands_82  ?_
    refine g_topi (y := (nI (xA d i).2.1.length)) (by rw [hle, show (1 : Int32) = nI 1 from rfl, pk_sub (by omega)]) ?_
    refine g_put h hw (pc := 83) (ws' := mw cI a v Z d.1 (nI (xA d i).2.1.length) (nI d.2.2.1.length)) (ty := .int) dX4_lands_83 iX4_lands_4 tyX4 tyX4_ok nmX4 0 rfl rfl 18 (by decide) fX4_lands_110 rfl (by decide +kernel) rfl rfl (Nat.le_of_ble_eq_true rfl) rfl ?_
    refine g_iload_n h (pc := 86) dX4_lands_86 3 rfl ?_
    refine g_istore h (pc := 87) dX4_lands_87 (by decide) rfl ?_
    have sh : ∀ (m b : Nat) (v1 : MX), b + m = d.2.1.length - 1 → i ≤ b → Shf 0 i b v v1 → GG C 7 (mw cI a v1 Z d.1 (nI (xA d i).2.1.length) (nI d.2.2.1.length)) 0 0 89 [(0, .ref (a 0)), (1, .int (nI s2)), (2, .int (nI k)), (3, .int (nI i)), (4, .int (col 2 e)), (5, .int (col 4 e)), (6, .int (nI b))] [] := by
      intro m
      induction m with
      | zero =>
        intro b v1 h1 h2 hS
        have hb : b = d.2.1.length - 1 := by omega
        subst hb
        have hR1 : RM (xA d i) v1 := hRM.eraA hlt hS
        refine g_iload h (pc := 89) dX4_lands_89 6 rfl ?_
        refine g_aload_n h (pc := 91) dX4_lands_91 0 rfl ?_
        refine g_get h (pc := 92) dX4_lands_92 iX4_lands_4 0 rfl rfl 18 (by decide) fX4_lands_110 rfl ?_
        refine g_icmp_ge_t h (pc := 95) (tgt := 184) dX4_lands_95 (by decide) (nI_le (by omega) (by omega)) ?_
        refine g_eq (ws' := mwd cI a v1 Z (xA d i)) rfl ?_
        refine g_aload_n h (pc := 184) dX4_lands_184 0 rfl ?_
        refine g_iload_n h (pc := 185) dX4_lands_185 1 rfl ?_
        refine g_iload_n h (pc := 186) dX4_lands_186 2 rfl ?_
        refine g_iload h (pc := 187) dX4_lands_187 4 rfl ?_
        refine g_iload h (pc := 189) dX4_lands_189 5 rfl ?_
        rcases a5 with ⟨b1, b2⟩ | ⟨b1, c, c1, c2, c3⟩ | ⟨b1, c, c1, c2, c3⟩
        · have e2 : lands Z d s2 k = inc (xA d i) 11 k := by rw [e1]; unfold serve; rw [if_pos b1]
          rw [e2] at hret
          rw [b1]
          refine g_callV h (pc := 191) (As := [.int (nI s2), .int (nI k), .int 0, .int (col 4 e)]) (st := []) dX4_lands_191 (m_serve0 (gL C) (gD C) cI cO a v1 Z (xA d i) hR1 ns nk hz s2 k hk (col 4 e)) hw gX4_lands_X4_serves rfl (q0 := 0) rfl rfl (show nPar yX4_serves RX4 4 = true by decide +kernel) ⟨Nat.le_of_ble_eq_true rfl, Nat.le_of_ble_eq_true rfl⟩ rfl (Nat.le_of_ble_eq_true rfl) ⟨Nat.zero_le _, Nat.zero_le _⟩ (fun v2 hR2 => ?_)
          exact hret v2 dX4_lands_194 hR2 rfl (Nat.le_refl _) (Nat.le_refl _)
        · have e2 : lands Z d s2 k = down Z (xA d i) c k := by rw [e1]; unfold serve; rw [b1, if_neg (show ¬ (1 : Int32) = 0 by decide), if_pos (show (1 : Int32) = 1 from rfl), c3, nI_clamp (by omega)]
          rw [e2] at hret
          rw [b1, c3]
          refine g_callV h (pc := 191) (As := [.int (nI s2), .int (nI k), .int 1, .int (nI c)]) (st := []) dX4_lands_191 (m_serve1 (gL C) (gD C) cI cO a v1 Z (xA d i) hR1 ns nk hz (by omega) s2 k c hk c2) hw gX4_lands_X4_serves rfl (q0 := 0) rfl rfl (show nPar yX4_serves RX4 4 = true by decide +kernel) ⟨Nat.le_of_ble_eq_true rfl, Nat.le_of_ble_eq_true rfl⟩ rfl (Nat.le_of_ble_eq_true rfl) ⟨Nat.zero_le _, Nat.zero_le _⟩ (fun v2 hR2 => ?_)
          exact hret v2 dX4_lands_194 hR2 rfl (Nat.le_refl _) (Nat.le_refl _)
        · have e2 : lands Z d s2 k = serveM Z (xA d i) s2 k c := by rw [e1]; unfold serve; rw [b1, if_neg (show ¬ (2 : Int32) = 0 by decide), if_neg (show ¬ (2 : Int32) = 1 by decide), c2, nI_clamp (by omega)]
          rw [e2] at hret
          rw [b1, c2]
          refine g_callV h (pc := 191) (As := [.int (nI s2), .int (nI k), .int 2, .int (nI c)]) (st := []) dX4_lands_191 (m_serve2 (gL C) (gD C) cI cO a v1 Z (xA d i) hR1 ns nk hz (by omega) B hB hG s2 k c hs hk c1) hw gX4_lands_X4_serves rfl (q0 := 0) rfl rfl (show nPar yX4_serves RX4 4 = true by decide +kernel) ⟨Nat.le_of_ble_eq_true rfl, Nat.le_of_ble_eq_true rfl⟩ rfl (Nat.le_of_ble_eq_true rfl) ⟨Nat.zero_le _, Nat.zero_le _⟩ (fun v2 hR2 => ?_)
          exact hret v2 dX4_lands_194 hR2 rfl (Nat.le_refl _) (Nat.le_refl _)
      | succ m ih =>
        intro b v1 h1 h2 hS
        refine g_iload h (pc := 89) dX4_lands_89 6 rfl ?_
        refine g_aload_n h (pc := 91) dX4_lands_91 0 rfl ?_
        refine g_get h (pc := 92) dX4_lands_92 iX4_lands_4 0 rfl rfl 18 (by decide) fX4_lands_110 rfl ?_
        refine g_icmp_ge_f h (pc := 95) (tgt := 184) dX4_lands_95 (by decide) (nI_ge (by omega) (by omega)) ?_
        refine g_aload_n h (pc := 98) dX4_lands_98 0 rfl ?_
        refine g_get h (pc := 99) dX4_lands_99 iX4_lands_4 0 rfl rfl 19 (by decide) fX4_lands_59 rfl ?_
        refine g_iload h (pc := 102) dX4_lands_102 6 rfl ?_
        refine g_aload_n h (pc := 104) dX4_lands_104 0 rfl ?_
        refine g_get h (pc := 105) dX4_lands_105 iX4_lands_4 0 rfl rfl 19 (by decide) fX4_lands_59 rfl ?_
        refine g_iload h (pc := 108) dX4_lands_108 6 rfl ?_
        refine g_iconst h (pc := 110) (v := 1) dX4_lands_110 (by decide) ?_
        refine g_iadd h (pc := 111) dX4_lands_111  ?_
        refine g_topi (nI_1 b) ?_
        refine g_iald h (pc := 112) (v := v1 0 (b + 1)) dX4_lands_112 15 rfl (vp_in_nI (by omega) (by omega)) (by rw [nI_clamp (by omega)] <;> rfl) ?_
        refine g_iast h hw (pc := 113) (ws' := mw cI a (vu v1 0 b (v1 0 (b + 1))) Z d.1 (nI (xA d i).2.1.length) (nI d.2.2.1.length)) dX4_lands_113 15 rfl (vp_in_nI (by omega) (by omega)) (by rw [nI_clamp (by omega)]; rfl) ?_
        refine g_aload_n h (pc := 114) dX4_lands_114 0 rfl ?_
        refine g_get h (pc := 115) dX4_lands_115 iX4_lands_4 0 rfl rfl 20 (by decide) fX4_lands_62 rfl ?_
        refine g_iload h (pc := 118) dX4_lands_118 6 rfl ?_
        refine g_aload_n h (pc := 120) dX4_lands_120 0 rfl ?_
        refine g_get h (pc := 121) dX4_lands_121 iX4_lands_4 0 rfl rfl 20 (by decide) fX4_lands_62 rfl ?_
        refine g_iload h (pc := 124) dX4_lands_124 6 rfl ?_
        refine g_iconst h (pc := 126) (v := 1) dX4_lands_126 (by decide) ?_
        refine g_iadd h (pc := 127) dX4_lands_127  ?_
        refine g_topi (nI_1 b) ?_
        refine g_iald h (pc := 128) (v := v1 1 (b + 1)) dX4_lands_128 16 rfl (vp_in_nI (by omega) (by omega)) (by rw [nI_clamp (by omega)] <;> rfl) ?_
        refine g_iast h hw (pc := 129) (ws' := mw cI a (vu (vu v1 0 b (v1 0 (b + 1))) 1 b (v1 1 (b + 1))) Z d.1 (nI (xA d i).2.1.length) (nI d.2.2.1.length)) dX4_lands_129 16 rfl (vp_in_nI (by omega) (by omega)) (by rw [nI_clamp (by omega)]; rfl) ?_
        refine g_aload_n h (pc := 130) dX4_lands_130 0 rfl ?_
        refine g_get h (pc := 131) dX4_lands_131 iX4_lands_4 0 rfl rfl 21 (by decide) fX4_lands_65 rfl ?_
        refine g_iload h (pc := 134) dX4_lands_134 6 rfl ?_
        refine g_aload_n h (pc := 136) dX4_lands_136 0 rfl ?_
        refine g_get h (pc := 137) dX4_lands_137 iX4_lands_4 0 rfl rfl 21 (by decide) fX4_lands_65 rfl ?_
        refine g_iload h (pc := 140) dX4_lands_140 6 rfl ?_
        refine g_iconst h (pc := 142) (v := 1) dX4_lands_142 (by decide) ?_
        refine g_iadd h (pc := 143) dX4_lands_143  ?_
        refine g_topi (nI_1 b) ?_
        refine g_iald h (pc := 144) (v := v1 2 (b + 1)) dX4_lands_144 17 rfl (vp_in_nI (by omega) (by omega)) (by rw [nI_clamp (by omega)] <;> rfl) ?_
        refine g_iast h hw (pc := 145) (ws' := mw cI a (vu (vu (vu v1 0 b (v1 0 (b + 1))) 1 b (v1 1 (b + 1))) 2 b (v1 2 (b + 1))) Z d.1 (nI (xA d i).2.1.length) (nI d.2.2.1.length)) dX4_lands_145 17 rfl (vp_in_nI (by omega) (by omega)) (by rw [nI_clamp (by omega)]; rfl) ?_
        refine g_aload_n h (pc := 146) dX4_lands_146 0 rfl ?_
        refine g_get h (pc := 147) dX4_lands_147 iX4_lands_4 0 rfl rfl 22 (by decide) fX4_lands_68 rfl ?_
        refine g_iload h (pc := 150) dX4_lands_150 6 rfl ?_
        refine g_aload_n h (pc := 152) dX4_lands_152 0 rfl ?_
        refine g_get h (pc := 153) dX4_lands_153 iX4_lands_4 0 rfl rfl 22 (by decide) fX4_lands_68 rfl ?_
        refine g_iload h (pc := 156) dX4_lands_156 6 rfl ?_
        refine g_iconst h (pc := 158) (v := 1) dX4_lands_158 (by decide) ?_
        refine g_iadd h (pc := 159) dX4_lands_159  ?_
        refine g_topi (nI_1 b) ?_
        refine g_iald h (pc := 160) (v := v1 3 (b + 1)) dX4_lands_160 18 rfl (vp_in_nI (by omega) (by omega)) (by rw [nI_clamp (by omega)] <;> rfl) ?_
        refine g_iast h hw (pc := 161) (ws' := mw cI a (vu (vu (vu (vu v1 0 b (v1 0 (b + 1))) 1 b (v1 1 (b + 1))) 2 b (v1 2 (b + 1))) 3 b (v1 3 (b + 1))) Z d.1 (nI (xA d i).2.1.length) (nI d.2.2.1.length)) dX4_lands_161 18 rfl (vp_in_nI (by omega) (by omega)) (by rw [nI_clamp (by omega)]; rfl) ?_
        refine g_aload_n h (pc := 162) dX4_lands_162 0 rfl ?_
        refine g_get h (pc := 163) dX4_lands_163 iX4_lands_4 0 rfl rfl 23 (by decide) fX4_lands_71 rfl ?_
        refine g_iload h (pc := 166) dX4_lands_166 6 rfl ?_
        refine g_aload_n h (pc := 168) dX4_lands_168 0 rfl ?_
        refine g_get h (pc := 169) dX4_lands_169 iX4_lands_4 0 rfl rfl 23 (by decide) fX4_lands_71 rfl ?_
        refine g_iload h (pc := 172) dX4_lands_172 6 rfl ?_
        refine g_iconst h (pc := 174) (v := 1) dX4_lands_174 (by decide) ?_
        refine g_iadd h (pc := 175) dX4_lands_175  ?_
        refine g_topi (nI_1 b) ?_
        refine g_iald h (pc := 176) (v := v1 4 (b + 1)) dX4_lands_176 19 rfl (vp_in_nI (by omega) (by omega)) (by rw [nI_clamp (by omega)] <;> rfl) ?_
        refine g_iast h hw (pc := 177) (ws' := mw cI a (vu (vu (vu (vu (vu v1 0 b (v1 0 (b + 1))) 1 b (v1 1 (b + 1))) 2 b (v1 2 (b + 1))) 3 b (v1 3 (b + 1))) 4 b (v1 4 (b + 1))) Z d.1 (nI (xA d i).2.1.length) (nI d.2.2.1.length)) dX4_lands_177 19 rfl (vp_in_nI (by omega) (by omega)) (by rw [nI_clamp (by omega)]; rfl) ?_
        refine g_iinc h (pc := 178) dX4_lands_178 6 rfl (nI_1 b) (by decide) rfl ?_
        refine g_goto h (pc := 181) (tgt := 89) dX4_lands_181 (by decide) ?_
        exact ih (b + 1) _ (by omega) (by omega) (hS.step h2)
    exact sh (d.2.1.length - 1 - i) i v (by omega) (Nat.le_refl _) (Shf.rf 0 i v)
  suffices loop : ∀ (m i : Nat), i + m = d.2.1.length → (∀ (j : Nat) (x : E5), j < i → d.2.1[j]? = some x → ¬ (col 0 x = nI s ∧ col 1 x = nI k)) → GG C 7 (mwd cI a v Z d) 0 0 2 [(0, .ref (a 0)), (1, .int (nI s)), (2, .int (nI k)), (3, .int (nI i))] [] from loop d.2.1.length 0 (by omega) (fun j x hj => absurd hj (by omega))
  intro m
  induction m with
  | zero =>
    intro i h1 hb
    have hi : i = d.2.1.length := by omega
    subst hi
    refine g_iload_n h (pc := 2) dX4_lands_2 3 rfl ?_
    refine g_aload_n h (pc := 3) dX4_lands_3 0 rfl ?_
    refine g_get h (pc := 4) dX4_lands_4 iX4_lands_4 0 rfl rfl 18 (by decide) fX4_lands_110 rfl ?_
    refine g_icmp_ge_t h (pc := 7) (tgt := 36) dX4_lands_7 (by decide) (Int32.le_refl _) ?_
    refine no (Nat.le_antisymm List.findIdx_le_length (Nat.not_lt.mp (fun q => ?_)))
    obtain ⟨e, he, hp⟩ := List.findIdx_lt_length.mp q
    obtain ⟨j, hj⟩ := List.getElem?_of_mem he
    exact hb j e (List.getElem?_eq_some_iff.mp hj).1 hj (of_decide_eq_true hp)
  | succ m ih =>
    intro i h1 hb
    obtain ⟨e, he⟩ : ∃ e, d.2.1[i]? = some e := ⟨_, List.getElem?_eq_getElem (show i < d.2.1.length by omega)⟩
    have nx : ¬ (col 0 e = nI s ∧ col 1 e = nI k) → ∀ (j : Nat) (x : E5), j < i + 1 → d.2.1[j]? = some x → ¬ (col 0 x = nI s ∧ col 1 x = nI k) := fun hn j x hj hx => by
      by_cases q : j = i
      · subst q
        rw [he] at hx
        cases hx
        exact hn
      · exact hb j x (by omega) hx
    refine g_iload_n h (pc := 2) dX4_lands_2 3 rfl ?_
    refine g_aload_n h (pc := 3) dX4_lands_3 0 rfl ?_
    refine g_get h (pc := 4) dX4_lands_4 iX4_lands_4 0 rfl rfl 18 (by decide) fX4_lands_110 rfl ?_
    refine g_icmp_ge_f h (pc := 7) (tgt := 36) dX4_lands_7 (by decide) (nI_ge (by omega) (by omega)) ?_
    refine g_aload_n h (pc := 10) dX4_lands_10 0 rfl ?_
    refine g_get h (pc := 11) dX4_lands_11 iX4_lands_4 0 rfl rfl 19 (by decide) fX4_lands_59 rfl ?_
    refine g_iload_n h (pc := 14) dX4_lands_14 3 rfl ?_
    refine g_iald h (pc := 15) (v := col 0 e) dX4_lands_15 15 rfl (vp_in_nI (by omega) (by omega)) (by rw [nI_clamp (by omega)]; exact hRM.a he 0 (by decide)) ?_
    refine g_iload_n h (pc := 16) dX4_lands_16 1 rfl ?_
    refine g_icmp_ne h (pc := 17) (tgt := 30) dX4_lands_17 (by decide) (fun c1 => ?_) (fun c1 => ?_)
    · refine g_iinc h (pc := 30) dX4_lands_30 3 rfl (nI_1 i) (by decide) rfl ?_
      refine g_goto h (pc := 33) (tgt := 2) dX4_lands_33 (by decide) ?_
      exact ih (i + 1) (by omega) (nx (fun z => c1 z.1))
    · refine g_aload_n h (pc := 20) dX4_lands_20 0 rfl ?_
      refine g_get h (pc := 21) dX4_lands_21 iX4_lands_4 0 rfl rfl 20 (by decide) fX4_lands_62 rfl ?_
      refine g_iload_n h (pc := 24) dX4_lands_24 3 rfl ?_
      refine g_iald h (pc := 25) (v := col 1 e) dX4_lands_25 16 rfl (vp_in_nI (by omega) (by omega)) (by rw [nI_clamp (by omega)]; exact hRM.a he 1 (by decide)) ?_
      refine g_iload_n h (pc := 26) dX4_lands_26 2 rfl ?_
      refine g_icmp_eq h (pc := 27) (tgt := 36) dX4_lands_27 (by decide) (fun c2 => ?_) (fun c2 => ?_)
      · refine yes i e ?_ he
        obtain ⟨g1, g2⟩ := List.getElem?_eq_some_iff.mp he
        unfold fst2
        rw [List.findIdx_eq g1]
        exact ⟨by rw [g2]; exact decide_eq_true ⟨c1, c2⟩, fun j hj => decide_eq_false (hb j _ hj (List.getElem?_eq_getElem (by omega)))⟩
      · refine g_iinc h (pc := 30) dX4_lands_30 3 rfl (nI_1 i) (by decide) rfl ?_
        refine g_goto h (pc := 33) (tgt := 2) dX4_lands_33 (by decide) ?_
        exact ih (i + 1) (by omega) (nx (fun z => c2 z.2))

def isD (Z : Sg) (d : Dy) : Int32 × Dy := match d.2.2.1[fstT (Z 14 0 2) d.2.2.1]? with
  | none => (0, d)
  | some e => (1, does Z d (fstT (Z 14 0 2) d.2.2.1) e)

theorem iX4_isDone_4 : ∀ w ∈ wsX40, w ∈ wsX4_isDone := by decide +kernel
theorem fX4_isDone_113 : Cond.fieldLink RX4 113 "SpareShelvesModel" "dues" "I" ∈ wsX4_isDone := by decide +kernel
theorem fX4_isDone_74 : Cond.fieldLink RX4 74 "SpareShelvesModel" "dueSort" "[I" ∈ wsX4_isDone := by decide +kernel
theorem fX4_isDone_77 : Cond.fieldLink RX4 77 "SpareShelvesModel" "dueShelf" "[I" ∈ wsX4_isDone := by decide +kernel
theorem fX4_isDone_80 : Cond.fieldLink RX4 80 "SpareShelvesModel" "dueKind" "[I" ∈ wsX4_isDone := by decide +kernel
theorem fX4_isDone_83 : Cond.fieldLink RX4 83 "SpareShelvesModel" "dueHow" "[I" ∈ wsX4_isDone := by decide +kernel
theorem fX4_isDone_86 : Cond.fieldLink RX4 86 "SpareShelvesModel" "dueTime" "[I" ∈ wsX4_isDone := by decide +kernel
theorem fX4_isDone_116 : Cond.fieldLink RX4 116 "SpareShelvesModel" "time" "I" ∈ wsX4_isDone := by decide +kernel
set_option maxHeartbeats 4000000 in
set_option maxRecDepth 100000 in
theorem m_isDone (l : Launch) (D : va_G) (cI cO : ClassId) (a : Nat → Nat) (v : MX) (Z : Sg) (d : Dy) (hRM : RM d v) (ns nk : Nat) (hz : Zv ns nk Z)  (hsz : sz d ≤ 5600) (B : Nat) (hB : B < 1000000000) (hG : Gd B d) (tau : Nat) (hd : Dv ns nk Z tau d) : CIm l yX4_isDone wsX4_isDone 9 236 D cI cO a v Z d [] (isD Z d).1 Z (isD Z d).2 := by
  unfold CIm
  refine CI.of (cc := cX4_isDone) (maxL := 7) (rt := .boolean) (by decide) rfl (Nat.le_of_ble_eq_true rfl) ?_
  intro C hgL hgD hw h hret
  have hn8 := hz.n8
  have hk8 := hz.k8
  have hlu : d.2.2.1.length ≤ sz d := Nat.le_add_left _ _
  refine g_iconst h (pc := 0) (v := 0) dX4_isDone_0 (by decide) ?_
  refine g_istore_n h (pc := 1) dX4_isDone_1 (by decide) rfl ?_
  have no : fstT (Z 14 0 2) d.2.2.1 = d.2.2.1.length → GG C 7 (mwd cI a v Z d) 0 0 29 [(0, .ref (a 0)), (1, .int (nI d.2.2.1.length))] [] := by
    intro hf
    have e1 : (isD Z d) = (0, d) := by unfold isD; rw [hf, List.getElem?_eq_none (Nat.le_refl _)]
    rw [e1] at hret
    refine g_iload_n h (pc := 29) dX4_isDone_29 1 rfl ?_
    refine g_aload_n h (pc := 30) dX4_isDone_30 0 rfl ?_
    refine g_get h (pc := 31) dX4_isDone_31 iX4_isDone_4 0 rfl rfl 24 (by decide) fX4_isDone_113 rfl ?_
    refine g_icmp_ne_f h (pc := 34) (tgt := 39) dX4_isDone_34 (by decide) rfl ?_
    refine g_iconst h (pc := 37) (v := 0) dX4_isDone_37 (by decide) ?_
    exact hret _ v dX4_isDone_38 (by decide) ⟨rfl, hRM⟩ rfl (Nat.le_refl _) (Nat.le_refl _)
  have yes : ∀ (i : Nat) (e : E5), fstT (Z 14 0 2) d.2.2.1 = i → d.2.2.1[i]? = some e → GG C 7 (mwd cI a v Z d) 0 0 29 [(0, .ref (a 0)), (1, .int (nI i))] [] := by
    intro i e hi he
    have hlt : i < d.2.2.1.length := (List.getElem?_eq_some_iff.mp he).1
    have e1 : (isD Z d) = (1, does Z d i e) := by unfold isD; rw [hi, he]
    rw [e1] at hret
    obtain ⟨s, k, t2, a1, a2, a3, a4, a5, a6, a7, a8⟩ := hd.2 e (List.mem_of_getElem? he)
    have ez := sz_xU d i
    have hle : (xU d i).2.2.1.length = d.2.2.1.length - 1 := List.length_eraseIdx_of_lt hlt
    refine g_iload_n h (pc := 29) dX4_isDone_29 1 rfl ?_
    refine g_aload_n h (pc := 30) dX4_isDone_30 0 rfl ?_
    refine g_get h (pc := 31) dX4_isDone_31 iX4_isDone_4 0 rfl rfl 24 (by decide) fX4_isDone_113 rfl ?_
    refine g_icmp_ne_t h (pc := 34) (tgt := 39) dX4_isDone_34 (by decide) (fun q => absurd ((nI_eq (by omega) (by omega)).mp q) (by omega)) ?_
    refine g_aload_n h (pc := 39) dX4_isDone_39 0 rfl ?_
    refine g_get h (pc := 40) dX4_isDone_40 iX4_isDone_4 0 rfl rfl 25 (by decide) fX4_isDone_74 rfl ?_
    refine g_iload_n h (pc := 43) dX4_isDone_43 1 rfl ?_
    refine g_iald h (pc := 44) (v := col 2 e) dX4_isDone_44 20 rfl (vp_in_nI (by omega) (by omega)) (by rw [nI_clamp (by omega)]; exact hRM.u he 0 (by decide)) ?_
    refine g_istore_n h (pc := 45) dX4_isDone_45 (by decide) rfl ?_
    refine g_aload_n h (pc := 46) dX4_isDone_46 0 rfl ?_
    refine g_get h (pc := 47) dX4_isDone_47 iX4_isDone_4 0 rfl rfl 26 (by decide) fX4_isDone_77 rfl ?_
    refine g_iload_n h (pc := 50) dX4_isDone_50 1 rfl ?_
    refine g_iald h (pc := 51) (v := col 0 e) dX4_isDone_51 21 rfl (vp_in_nI (by omega) (by omega)) (by rw [nI_clamp (by omega)]; exact hRM.u he 1 (by decide)) ?_
    refine g_istore_n h (pc := 52) dX4_isDone_52 (by decide) rfl ?_
    refine g_aload_n h (pc := 53) dX4_isDone_53 0 rfl ?_
    refine g_get h (pc := 54) dX4_isDone_54 iX4_isDone_4 0 rfl rfl 27 (by decide) fX4_isDone_80 rfl ?_
    refine g_iload_n h (pc := 57) dX4_isDone_57 1 rfl ?_
    refine g_iald h (pc := 58) (v := col 1 e) dX4_isDone_58 22 rfl (vp_in_nI (by omega) (by omega)) (by rw [nI_clamp (by omega)]; exact hRM.u he 2 (by decide)) ?_
    refine g_istore h (pc := 59) dX4_isDone_59 (by decide) rfl ?_
    refine g_aload_n h (pc := 61) dX4_isDone_61 0 rfl ?_
    refine g_get h (pc := 62) dX4_isDone_62 iX4_isDone_4 0 rfl rfl 28 (by decide) fX4_isDone_83 rfl ?_
    refine g_iload_n h (pc := 65) dX4_isDone_65 1 rfl ?_
    refine g_iald h (pc := 66) (v := col 4 e) dX4_isDone_66 23 rfl (vp_in_nI (by omega) (by omega)) (by rw [nI_clamp (by omega)]; exact hRM.u he 3 (by decide)) ?_
    refine g_istore h (pc := 67) dX4_isDone_67 (by decide) rfl ?_
    refine g_aload_n h (pc := 69) dX4_isDone_69 0 rfl ?_
    refine g_dup h (pc := 70) dX4_isDone_70 rfl ?_
    refine g_get h (pc := 71) dX4_isDone_71 iX4_isDone_4 0 rfl rfl 24 (by decide) fX4_isDone_113 rfl ?_
    refine g_iconst h (pc := 74) (v := 1) dX4_isDone_74 (by decide) ?_
    refine g_isub h (pc := 75) dX4_isDone_75  ?_
    refine g_topi (y := (nI (xU d i).2.2.1.length)) (by rw [hle, show (1 : Int32) = nI 1 from rfl, pk_sub (by omega)]) ?_
    refine g_put h hw (pc := 76) (ws' := mw cI a v Z d.1 (nI d.2.1.length) (nI (xU d i).2.2.1.length)) (ty := .int) dX4_isDone_76 iX4_isDone_4 tyX4 tyX4_ok nmX4 0 rfl rfl 24 (by decide) fX4_isDone_113 rfl (by decide +kernel) rfl rfl (Nat.le_of_ble_eq_true rfl) rfl ?_
    refine g_iload_n h (pc := 79) dX4_isDone_79 1 rfl ?_
    refine g_istore h (pc := 80) dX4_isDone_80 (by decide) rfl ?_
    have sh : ∀ (m b : Nat) (v1 : MX), b + m = d.2.2.1.length - 1 → i ≤ b → Shf 5 i b v v1 → GG C 7 (mw cI a v1 Z d.1 (nI d.2.1.length) (nI (xU d i).2.2.1.length)) 0 0 82 [(0, .ref (a 0)), (1, .int (nI i)), (2, .int (col 2 e)), (3, .int (col 0 e)), (4, .int (col 1 e)), (5, .int (col 4 e)), (6, .int (nI b))] [] := by
      intro m
      induction m with
      | zero =>
        intro b v1 h1 h2 hS
        have hb : b = d.2.2.1.length - 1 := by omega
        subst hb
        have hR1 : RM (xU d i) v1 := hRM.eraU hlt hS
        refine g_iload h (pc := 82) dX4_isDone_82 6 rfl ?_
        refine g_aload_n h (pc := 84) dX4_isDone_84 0 rfl ?_
        refine g_get h (pc := 85) dX4_isDone_85 iX4_isDone_4 0 rfl rfl 24 (by decide) fX4_isDone_113 rfl ?_
        refine g_icmp_ge_t h (pc := 88) (tgt := 177) dX4_isDone_88 (by decide) (nI_le (by omega) (by omega)) ?_
        refine g_eq (ws' := mwd cI a v1 Z (xU d i)) rfl ?_
        rw [a3, a4]
        refine g_iload_n h (pc := 177) dX4_isDone_177 2 rfl ?_
        refine g_iconst h (pc := 178) (v := 3) dX4_isDone_178 (by decide) ?_
        rcases a8 with b8 | ⟨b8, hh⟩
        · have e2 : does Z d i e = lands Z (xU d i) s k := by unfold does; rw [if_neg (by rcases b8 with b | b | b <;> rw [b] <;> decide), a3, a4, nI_clamp (by omega), nI_clamp (by omega)]
          rw [e2] at hret
          refine g_icmp_ne_t h (pc := 179) (tgt := 194) dX4_isDone_179 (by decide) (by rcases b8 with b | b | b <;> rw [b] <;> decide) ?_
          refine g_aload_n h (pc := 194) dX4_isDone_194 0 rfl ?_
          refine g_iload_n h (pc := 195) dX4_isDone_195 3 rfl ?_
          refine g_iload h (pc := 196) dX4_isDone_196 4 rfl ?_
          refine g_callV h (pc := 198) (As := [.int (nI s), .int (nI k)]) (st := []) dX4_isDone_198 (m_lands (gL C) (gD C) cI cO a v1 Z (xU d i) hR1 ns nk hz (by omega) B hB hG hd.1 s k a1 a2) hw gX4_isDone_X4_lands rfl (q0 := 0) rfl rfl (show nPar yX4_lands RX4 2 = true by decide +kernel) ⟨Nat.le_of_ble_eq_true rfl, Nat.le_of_ble_eq_true rfl⟩ rfl (Nat.le_of_ble_eq_true rfl) ⟨Nat.zero_le _, Nat.zero_le _⟩ (fun v2 hR2 => ?_)
          refine g_iconst h (pc := 201) (v := 1) dX4_isDone_201 (by decide) ?_
          exact hret _ v2 dX4_isDone_202 (by decide) ⟨rfl, hR2⟩ rfl (Nat.le_refl _) (Nat.le_refl _)
        · have e2 : does Z d i e = back Z (xU d i) s k (col 4 e) := by unfold does; rw [if_pos b8, a3, a4, nI_clamp (by omega), nI_clamp (by omega)]
          rw [e2] at hret
          refine g_icmp_ne_f h (pc := 179) (tgt := 194) dX4_isDone_179 (by decide) b8 ?_
          refine g_aload_n h (pc := 182) dX4_isDone_182 0 rfl ?_
          refine g_iload_n h (pc := 183) dX4_isDone_183 3 rfl ?_
          refine g_iload h (pc := 184) dX4_isDone_184 4 rfl ?_
          refine g_iload h (pc := 186) dX4_isDone_186 5 rfl ?_
          rcases hh with h4 | ⟨h4, c, hc, ec⟩
          · rw [h4] at hret ⊢
            refine g_callV h (pc := 188) (As := [.int (nI s), .int (nI k), .int 0]) (st := []) dX4_isDone_188 (m_arr0 (gL C) (gD C) cI cO a v1 Z (xU d i) hR1 ns nk hz (by omega) s k a1 a2) hw gX4_isDone_X4_arrives rfl (q0 := 0) rfl rfl (show nPar yX4_arrives RX4 3 = true by decide +kernel) ⟨Nat.le_of_ble_eq_true rfl, Nat.le_of_ble_eq_true rfl⟩ rfl (Nat.le_of_ble_eq_true rfl) ⟨Nat.zero_le _, Nat.zero_le _⟩ (fun v2 hR2 => ?_)
            refine g_goto h (pc := 191) (tgt := 201) dX4_isDone_191 (by decide) ?_
            refine g_iconst h (pc := 201) (v := 1) dX4_isDone_201 (by decide) ?_
            exact hret _ v2 dX4_isDone_202 (by decide) ⟨rfl, hR2⟩ rfl (Nat.le_refl _) (Nat.le_refl _)
          · rw [h4] at hret ⊢
            refine g_callV h (pc := 188) (As := [.int (nI s), .int (nI k), .int 1]) (st := []) dX4_isDone_188 (m_arr1 (gL C) (gD C) cI cO a v1 Z (xU d i) hR1 ns nk hz (by omega) B hB hG s k c a1 a2 hc ec) hw gX4_isDone_X4_arrives rfl (q0 := 0) rfl rfl (show nPar yX4_arrives RX4 3 = true by decide +kernel) ⟨Nat.le_of_ble_eq_true rfl, Nat.le_of_ble_eq_true rfl⟩ rfl (Nat.le_of_ble_eq_true rfl) ⟨Nat.zero_le _, Nat.zero_le _⟩ (fun v2 hR2 => ?_)
            refine g_goto h (pc := 191) (tgt := 201) dX4_isDone_191 (by decide) ?_
            refine g_iconst h (pc := 201) (v := 1) dX4_isDone_201 (by decide) ?_
            exact hret _ v2 dX4_isDone_202 (by decide) ⟨rfl, hR2⟩ rfl (Nat.le_refl _) (Nat.le_refl _)
      | succ m ih =>
        intro b v1 h1 h2 hS
        refine g_iload h (pc := 82) dX4_isDone_82 6 rfl ?_
        refine g_aload_n h (pc := 84) dX4_isDone_84 0 rfl ?_
        refine g_get h (pc := 85) dX4_isDone_85 iX4_isDone_4 0 rfl rfl 24 (by decide) fX4_isDone_113 rfl ?_
        refine g_icmp_ge_f h (pc := 88) (tgt := 177) dX4_isDone_88 (by decide) (nI_ge (by omega) (by omega)) ?_
        refine g_aload_n h (pc := 91) dX4_isDone_91 0 rfl ?_
        refine g_get h (pc := 92) dX4_isDone_92 iX4_isDone_4 0 rfl rfl 25 (by decide) fX4_isDone_74 rfl ?_
        refine g_iload h (pc := 95) dX4_isDone_95 6 rfl ?_
        refine g_aload_n h (pc := 97) dX4_isDone_97 0 rfl ?_
        refine g_get h (pc := 98) dX4_isDone_98 iX4_isDone_4 0 rfl rfl 25 (by decide) fX4_isDone_74 rfl ?_
        refine g_iload h (pc := 101) dX4_isDone_101 6 rfl ?_
        refine g_iconst h (pc := 103) (v := 1) dX4_isDone_103 (by decide) ?_
        refine g_iadd h (pc := 104) dX4_isDone_104  ?_
        refine g_topi (nI_1 b) ?_
        refine g_iald h (pc := 105) (v := v1 5 (b + 1)) dX4_isDone_105 20 rfl (vp_in_nI (by omega) (by omega)) (by rw [nI_clamp (by omega)] <;> rfl) ?_
        refine g_iast h hw (pc := 106) (ws' := mw cI a (vu v1 5 b (v1 5 (b + 1))) Z d.1 (nI d.2.1.length) (nI (xU d i).2.2.1.length)) dX4_isDone_106 20 rfl (vp_in_nI (by omega) (by omega)) (by rw [nI_clamp (by omega)]; rfl) ?_
        refine g_aload_n h (pc := 107) dX4_isDone_107 0 rfl ?_
        refine g_get h (pc := 108) dX4_isDone_108 iX4_isDone_4 0 rfl rfl 26 (by decide) fX4_isDone_77 rfl ?_
        refine g_iload h (pc := 111) dX4_isDone_111 6 rfl ?_
        refine g_aload_n h (pc := 113) dX4_isDone_113 0 rfl ?_
        refine g_get h (pc := 114) dX4_isDone_114 iX4_isDone_4 0 rfl rfl 26 (by decide) fX4_isDone_77 rfl ?_
        refine g_iload h (pc := 117) dX4_isDone_117 6 rfl ?_
        refine g_iconst h (pc := 119) (v := 1) dX4_isDone_119 (by decide) ?_
        refine g_iadd h (pc := 120) dX4_isDone_120  ?_
        refine g_topi (nI_1 b) ?_
        refine g_iald h (pc := 121) (v := v1 6 (b + 1)) dX4_isDone_121 21 rfl (vp_in_nI (by omega) (by omega)) (by rw [nI_clamp (by omega)] <;> rfl) ?_
        refine g_iast h hw (pc := 122) (ws' := mw cI a (vu (vu v1 5 b (v1 5 (b + 1))) 6 b (v1 6 (b + 1))) Z d.1 (nI d.2.1.length) (nI (xU d i).2.2.1.length)) dX4_isDone_122 21 rfl (vp_in_nI (by omega) (by omega)) (by rw [nI_clamp (by omega)]; rfl) ?_
        refine g_aload_n h (pc := 123) dX4_isDone_123 0 rfl ?_
        refine g_get h (pc := 124) dX4_isDone_124 iX4_isDone_4 0 rfl rfl 27 (by decide) fX4_isDone_80 rfl ?_
        refine g_iload h (pc := 127) dX4_isDone_127 6 rfl ?_
        refine g_aload_n h (pc := 129) dX4_isDone_129 0 rfl ?_
        refine g_get h (pc := 130) dX4_isDone_130 iX4_isDone_4 0 rfl rfl 27 (by decide) fX4_isDone_80 rfl ?_
        refine g_iload h (pc := 133) dX4_isDone_133 6 rfl ?_
        refine g_iconst h (pc := 135) (v := 1) dX4_isDone_135 (by decide) ?_
        refine g_iadd h (pc := 136) dX4_isDone_136  ?_
        refine g_topi (nI_1 b) ?_
        refine g_iald h (pc := 137) (v := v1 7 (b + 1)) dX4_isDone_137 22 rfl (vp_in_nI (by omega) (by omega)) (by rw [nI_clamp (by omega)] <;> rfl) ?_
        refine g_iast h hw (pc := 138) (ws' := mw cI a (vu (vu (vu v1 5 b (v1 5 (b + 1))) 6 b (v1 6 (b + 1))) 7 b (v1 7 (b + 1))) Z d.1 (nI d.2.1.length) (nI (xU d i).2.2.1.length)) dX4_isDone_138 22 rfl (vp_in_nI (by omega) (by omega)) (by rw [nI_clamp (by omega)]; rfl) ?_
        refine g_aload_n h (pc := 139) dX4_isDone_139 0 rfl ?_
        refine g_get h (pc := 140) dX4_isDone_140 iX4_isDone_4 0 rfl rfl 28 (by decide) fX4_isDone_83 rfl ?_
        refine g_iload h (pc := 143) dX4_isDone_143 6 rfl ?_
        refine g_aload_n h (pc := 145) dX4_isDone_145 0 rfl ?_
        refine g_get h (pc := 146) dX4_isDone_146 iX4_isDone_4 0 rfl rfl 28 (by decide) fX4_isDone_83 rfl ?_
        refine g_iload h (pc := 149) dX4_isDone_149 6 rfl ?_
        refine g_iconst h (pc := 151) (v := 1) dX4_isDone_151 (by decide) ?_
        refine g_iadd h (pc := 152) dX4_isDone_152  ?_
        refine g_topi (nI_1 b) ?_
        refine g_iald h (pc := 153) (v := v1 8 (b + 1)) dX4_isDone_153 23 rfl (vp_in_nI (by omega) (by omega)) (by rw [nI_clamp (by omega)] <;> rfl) ?_
        refine g_iast h hw (pc := 154) (ws' := mw cI a (vu (vu (vu (vu v1 5 b (v1 5 (b + 1))) 6 b (v1 6 (b + 1))) 7 b (v1 7 (b + 1))) 8 b (v1 8 (b + 1))) Z d.1 (nI d.2.1.length) (nI (xU d i).2.2.1.length)) dX4_isDone_154 23 rfl (vp_in_nI (by omega) (by omega)) (by rw [nI_clamp (by omega)]; rfl) ?_
        refine g_aload_n h (pc := 155) dX4_isDone_155 0 rfl ?_
        refine g_get h (pc := 156) dX4_isDone_156 iX4_isDone_4 0 rfl rfl 29 (by decide) fX4_isDone_86 rfl ?_
        refine g_iload h (pc := 159) dX4_isDone_159 6 rfl ?_
        refine g_aload_n h (pc := 161) dX4_isDone_161 0 rfl ?_
        refine g_get h (pc := 162) dX4_isDone_162 iX4_isDone_4 0 rfl rfl 29 (by decide) fX4_isDone_86 rfl ?_
        refine g_iload h (pc := 165) dX4_isDone_165 6 rfl ?_
        refine g_iconst h (pc := 167) (v := 1) dX4_isDone_167 (by decide) ?_
        refine g_iadd h (pc := 168) dX4_isDone_168  ?_
        refine g_topi (nI_1 b) ?_
        refine g_iald h (pc := 169) (v := v1 9 (b + 1)) dX4_isDone_169 24 rfl (vp_in_nI (by omega) (by omega)) (by rw [nI_clamp (by omega)] <;> rfl) ?_
        refine g_iast h hw (pc := 170) (ws' := mw cI a (vu (vu (vu (vu (vu v1 5 b (v1 5 (b + 1))) 6 b (v1 6 (b + 1))) 7 b (v1 7 (b + 1))) 8 b (v1 8 (b + 1))) 9 b (v1 9 (b + 1))) Z d.1 (nI d.2.1.length) (nI (xU d i).2.2.1.length)) dX4_isDone_170 24 rfl (vp_in_nI (by omega) (by omega)) (by rw [nI_clamp (by omega)]; rfl) ?_
        refine g_iinc h (pc := 171) dX4_isDone_171 6 rfl (nI_1 b) (by decide) rfl ?_
        refine g_goto h (pc := 174) (tgt := 82) dX4_isDone_174 (by decide) ?_
        exact ih (b + 1) _ (by omega) (by omega) (hS.step h2)
    exact sh (d.2.2.1.length - 1 - i) i v (by omega) (Nat.le_refl _) (Shf.rf 5 i v)
  suffices loop : ∀ (m i : Nat), i + m = d.2.2.1.length → (∀ (j : Nat) (x : E5), j < i → d.2.2.1[j]? = some x → col 3 x ≠ Z 14 0 2) → GG C 7 (mwd cI a v Z d) 0 0 2 [(0, .ref (a 0)), (1, .int (nI i))] [] from loop d.2.2.1.length 0 (by omega) (fun j x hj => absurd hj (by omega))
  intro m
  induction m with
  | zero =>
    intro i h1 hb
    have hi : i = d.2.2.1.length := by omega
    subst hi
    refine g_iload_n h (pc := 2) dX4_isDone_2 1 rfl ?_
    refine g_aload_n h (pc := 3) dX4_isDone_3 0 rfl ?_
    refine g_get h (pc := 4) dX4_isDone_4 iX4_isDone_4 0 rfl rfl 24 (by decide) fX4_isDone_113 rfl ?_
    refine g_icmp_ge_t h (pc := 7) (tgt := 29) dX4_isDone_7 (by decide) (Int32.le_refl _) ?_
    refine no (Nat.le_antisymm List.findIdx_le_length (Nat.not_lt.mp (fun q => ?_)))
    obtain ⟨e, he, hp⟩ := List.findIdx_lt_length.mp q
    obtain ⟨j, hj⟩ := List.getElem?_of_mem he
    exact hb j e (List.getElem?_eq_some_iff.mp hj).1 hj (of_decide_eq_true hp)
  | succ m ih =>
    intro i h1 hb
    obtain ⟨e, he⟩ : ∃ e, d.2.2.1[i]? = some e := ⟨_, List.getElem?_eq_getElem (show i < d.2.2.1.length by omega)⟩
    refine g_iload_n h (pc := 2) dX4_isDone_2 1 rfl ?_
    refine g_aload_n h (pc := 3) dX4_isDone_3 0 rfl ?_
    refine g_get h (pc := 4) dX4_isDone_4 iX4_isDone_4 0 rfl rfl 24 (by decide) fX4_isDone_113 rfl ?_
    refine g_icmp_ge_f h (pc := 7) (tgt := 29) dX4_isDone_7 (by decide) (nI_ge (by omega) (by omega)) ?_
    refine g_aload_n h (pc := 10) dX4_isDone_10 0 rfl ?_
    refine g_get h (pc := 11) dX4_isDone_11 iX4_isDone_4 0 rfl rfl 29 (by decide) fX4_isDone_86 rfl ?_
    refine g_iload_n h (pc := 14) dX4_isDone_14 1 rfl ?_
    refine g_iald h (pc := 15) (v := col 3 e) dX4_isDone_15 24 rfl (vp_in_nI (by omega) (by omega)) (by rw [nI_clamp (by omega)]; exact hRM.u he 4 (by decide)) ?_
    refine g_aload_n h (pc := 16) dX4_isDone_16 0 rfl ?_
    refine g_get h (pc := 17) dX4_isDone_17 iX4_isDone_4 0 rfl rfl 12 (by decide) fX4_isDone_116 rfl ?_
    refine g_icmp_eq h (pc := 20) (tgt := 29) dX4_isDone_20 (by decide) (fun c1 => ?_) (fun c1 => ?_)
    · exact yes i e (fstT_at he c1 hb) he
    · refine g_iinc h (pc := 23) dX4_isDone_23 1 rfl (nI_1 i) (by decide) rfl ?_
      refine g_goto h (pc := 26) (tgt := 2) dX4_isDone_26 (by decide) ?_
      refine ih (i + 1) (by omega) (fun j x hj hx => ?_)
      by_cases q : j = i
      · subst q
        rw [he] at hx
        cases hx
        exact c1
      · exact hb j x (by omega) hx
