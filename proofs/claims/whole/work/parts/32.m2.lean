theorem mOf_self {Z : Sg} {s k : Nat} (h : ¬ Z 6 s k = 0) : mOf Z k s = s := by
  show mo Z k (7 + 1) s = s
  rw [mo, if_neg h]
theorem mOf_other {ns nk : Nat} {Z : Sg} (hz : Zv ns nk Z) {s k : Nat} (hs : s < ns) (hk : k < nk) (h : Z 6 s k = 0) : mOf Z k s ≠ s := fun q => by
  have h1 := mOf_nz hz hk hs
  rw [q] at h1
  exact h1 h
theorem back_0 (Z : Sg) (d : Dy) (s k : Nat) : back Z d s k 0 = backP Z d s k := by
  unfold back backP
  rw [if_pos (show (0 : Int32) = 0 from rfl)]

theorem iX4_serves_4 : ∀ w ∈ wsX40, w ∈ wsX4_serves := by decide +kernel
theorem fX4_serves_50 : Cond.fieldLink RX4 50 "SpareShelvesModel" "taken" "[I" ∈ wsX4_serves := by decide +kernel
set_option maxHeartbeats 4000000 in
set_option maxRecDepth 100000 in
theorem m_serve0 (l : Launch) (D : va_G) (cI cO : ClassId) (a : Nat → Nat) (v : MX) (Z : Sg) (d : Dy) (hRM : RM d v) (ns nk : Nat) (hz : Zv ns nk Z) (s k : Nat) (hk : k < nk) (q : Int32) : CVm l yX4_serves wsX4_serves 1 26 D cI cO a v Z d [.int (nI s), .int (nI k), .int 0, .int q] Z (inc d 11 k) := by
  unfold CVm
  refine CV.of (cc := cX4_serves) (maxL := 5) (by decide) rfl (Nat.le_of_ble_eq_true rfl) ?_
  intro C hgL hgD hw h hret
  have hn8 := hz.n8
  have hk8 := hz.k8
  refine g_iload_n h (pc := 0) dX4_serves_0 3 rfl ?_
  refine g_if_ne_f h (pc := 1) (tgt := 17) dX4_serves_1 (by decide) rfl ?_
  refine g_aload_n h (pc := 4) dX4_serves_4 0 rfl ?_
  refine g_get h (pc := 5) dX4_serves_5 iX4_serves_4 0 rfl rfl 15 (by decide) fX4_serves_50 rfl ?_
  refine g_iload_n h (pc := 8) dX4_serves_8 2 rfl ?_
  refine g_dup2 h (pc := 9) dX4_serves_9 rfl rfl ?_
  refine g_iald h (pc := 10) (v := d.1 11 0 k) dX4_serves_10 12 rfl (vp_in_nI (by omega) (by omega)) (by rw [nI_clamp (by omega)]) ?_
  refine g_iconst h (pc := 11) (v := 1) dX4_serves_11 (by decide) ?_
  refine g_iadd h (pc := 12) dX4_serves_12  ?_
  refine g_iast h hw (pc := 13) (ws' := mw cI a v Z (inc d 11 k).1 (nI d.2.1.length) (nI d.2.2.1.length)) dX4_serves_13 12 rfl (vp_in_nI (by omega) (by omega)) (by rw [nI_clamp (by omega)]; rfl) ?_
  refine g_goto h (pc := 14) (tgt := 101) dX4_serves_14 (by decide) ?_
  exact hret v dX4_serves_101 hRM rfl (Nat.le_refl _) (Nat.le_refl _)

theorem fX4_serves_29 : Cond.fieldLink RX4 29 "SpareShelvesModel" "way" "[I" ∈ wsX4_serves := by decide +kernel
set_option maxHeartbeats 4000000 in
set_option maxRecDepth 100000 in
theorem m_serve1 (l : Launch) (D : va_G) (cI cO : ClassId) (a : Nat → Nat) (v : MX) (Z : Sg) (d : Dy) (hRM : RM d v) (ns nk : Nat) (hz : Zv ns nk Z)  (hsz : sz d ≤ 5950) (s k c : Nat) (hk : k < nk) (hc : c < ns) : CVm l yX4_serves wsX4_serves 1 26 D cI cO a v Z d [.int (nI s), .int (nI k), .int 1, .int (nI c)] Z (down Z d c k) := by
  unfold CVm
  refine CV.of (cc := cX4_serves) (maxL := 5) (by decide) rfl (Nat.le_of_ble_eq_true rfl) ?_
  intro C hgL hgD hw h hret
  have hn8 := hz.n8
  have hk8 := hz.k8
  refine g_iload_n h (pc := 0) dX4_serves_0 3 rfl ?_
  refine g_if_ne_t h (pc := 1) (tgt := 17) dX4_serves_1 (by decide) (by decide) ?_
  refine g_iload_n h (pc := 17) dX4_serves_17 3 rfl ?_
  refine g_iconst h (pc := 18) (v := 1) dX4_serves_18 (by decide) ?_
  refine g_icmp_ne_f h (pc := 19) (tgt := 41) dX4_serves_19 (by decide) rfl ?_
  refine g_aload_n h (pc := 22) dX4_serves_22 0 rfl ?_
  refine g_iconst h (pc := 23) (v := 0) dX4_serves_23 (by decide) ?_
  refine g_iload h (pc := 24) dX4_serves_24 4 rfl ?_
  refine g_iload_n h (pc := 26) dX4_serves_26 2 rfl ?_
  refine g_iconst h (pc := 27) (v := 0) dX4_serves_27 (by decide) ?_
  refine g_aload_n h (pc := 28) dX4_serves_28 0 rfl ?_
  refine g_get h (pc := 29) dX4_serves_29 iX4_serves_4 0 rfl rfl 7 (by decide) fX4_serves_29 rfl ?_
  refine g_iload h (pc := 32) dX4_serves_32 4 rfl ?_
  refine g_iald h (pc := 34) (v := Z 4 0 c) dX4_serves_34 5 rfl (vp_in_nI (by omega) (by omega)) (by rw [nI_clamp (by omega)]) ?_
  refine g_callV h (pc := 35) (As := [.int 0, .int (nI c), .int (nI k), .int 0, .int (Z 4 0 c)]) (st := []) dX4_serves_35 (m_due (gL C) (gD C) cI cO a v Z d hRM ns nk hz (by have h9 : d.2.2.1.length ≤ sz d := Nat.le_add_left _ _; omega) 0 0 (Z 4 0 c) c k) hw gX4_serves_X4_due rfl (q0 := 0) rfl rfl (show nPar yX4_due RX4 5 = true by decide +kernel) ⟨Nat.le_of_ble_eq_true rfl, Nat.le_of_ble_eq_true rfl⟩ rfl (Nat.le_of_ble_eq_true rfl) ⟨Nat.zero_le _, Nat.zero_le _⟩ (fun v2 hR2 => ?_)
  refine g_goto h (pc := 38) (tgt := 101) dX4_serves_38 (by decide) ?_
  exact hret v2 dX4_serves_101 hR2 rfl (Nat.le_refl _) (Nat.le_refl _)

theorem iX4_asks_4 : ∀ w ∈ wsX40, w ∈ wsX4_asks := by decide +kernel
theorem fX4_asks_38 : Cond.fieldLink RX4 38 "SpareShelvesModel" "good" "[I" ∈ wsX4_asks := by decide +kernel
theorem fX4_asks_59 : Cond.fieldLink RX4 59 "SpareShelvesModel" "askShelf" "[I" ∈ wsX4_asks := by decide +kernel
theorem fX4_asks_110 : Cond.fieldLink RX4 110 "SpareShelvesModel" "asks" "I" ∈ wsX4_asks := by decide +kernel
theorem fX4_asks_62 : Cond.fieldLink RX4 62 "SpareShelvesModel" "askKind" "[I" ∈ wsX4_asks := by decide +kernel
theorem fX4_asks_65 : Cond.fieldLink RX4 65 "SpareShelvesModel" "askBy" "[I" ∈ wsX4_asks := by decide +kernel
theorem fX4_asks_68 : Cond.fieldLink RX4 68 "SpareShelvesModel" "askOf" "[I" ∈ wsX4_asks := by decide +kernel
theorem fX4_asks_71 : Cond.fieldLink RX4 71 "SpareShelvesModel" "askSince" "[I" ∈ wsX4_asks := by decide +kernel
theorem fX4_asks_116 : Cond.fieldLink RX4 116 "SpareShelvesModel" "time" "I" ∈ wsX4_asks := by decide +kernel
set_option maxHeartbeats 4000000 in
set_option maxRecDepth 100000 in
theorem m_asks0 (l : Launch) (D : va_G) (cI cO : ClassId) (a : Nat → Nat) (v : MX) (Z : Sg) (d : Dy) (hRM : RM d v) (ns nk : Nat) (hz : Zv ns nk Z)  (hsz : sz d ≤ 5900) (B : Nat) (hB : B < 1000000000) (hG : Gd B d) (s k : Nat) (hs : s < ns) (hk : k < nk) : CIm l yX4_asks wsX4_asks 2 52 D cI cO a v Z d [.int (nI s), .int (nI k), .int 0, .int (-1)] (if d.1 7 s k = 0 then 0 else 1) Z (machine Z d s k) := by
  unfold CIm
  refine CI.of (cc := cX4_asks) (maxL := 5) (rt := .boolean) (by decide) rfl (Nat.le_of_ble_eq_true rfl) ?_
  intro C hgL hgD hw h hret
  have hn8 := hz.n8
  have hk8 := hz.k8
  have hgz := hG.z hB (s := s) (k := k) (by omega) (by omega)
  refine g_aload_n h (pc := 0) dX4_asks_0 0 rfl ?_
  refine g_get h (pc := 1) dX4_asks_1 iX4_asks_4 0 rfl rfl 10 (by decide) fX4_asks_38 rfl ?_
  refine g_bipush h (pc := 4) (v := 8) dX4_asks_4 (by decide) ?_
  refine g_iload_n h (pc := 6) dX4_asks_6 1 rfl ?_
  refine g_imul h (pc := 7) dX4_asks_7  ?_
  refine g_iload_n h (pc := 8) dX4_asks_8 2 rfl ?_
  refine g_iadd h (pc := 9) dX4_asks_9  ?_
  refine g_topi (nI_83 s k) ?_
  refine g_iald h (pc := 10) (v := d.1 7 s k) dX4_asks_10 8 rfl (vp_in_nI (by omega) (by omega)) (by rw [nI_clamp (by omega)]; exact fl2_at _ (by omega)) ?_
  by_cases hg : d.1 7 s k = 0
  · have e1 : (machine Z d s k) = dA d (nI s, nI k, 0, Z 14 0 2, (-1)) := if_pos hg
    rw [e1, if_pos hg] at hret
    refine g_if_le_t h (pc := 11) (tgt := 40) dX4_asks_11 (by decide) (hgz.mpr hg) ?_
    have hla : d.2.1.length ≤ sz d := Nat.le_add_right _ _
    refine g_aload_n h (pc := 40) dX4_asks_40 0 rfl ?_
    refine g_get h (pc := 41) dX4_asks_41 iX4_asks_4 0 rfl rfl 19 (by decide) fX4_asks_59 rfl ?_
    refine g_aload_n h (pc := 44) dX4_asks_44 0 rfl ?_
    refine g_get h (pc := 45) dX4_asks_45 iX4_asks_4 0 rfl rfl 18 (by decide) fX4_asks_110 rfl ?_
    refine g_iload_n h (pc := 48) dX4_asks_48 1 rfl ?_
    refine g_iast h hw (pc := 49) (ws' := mw cI a (vu v 0 d.2.1.length (nI s)) Z d.1 (nI d.2.1.length) (nI d.2.2.1.length)) dX4_asks_49 15 rfl (vp_in_nI (by have h9 : d.2.1.length ≤ sz d := Nat.le_add_right _ _; omega) (by omega)) (by rw [nI_clamp (by omega)]; rfl) ?_
    refine g_aload_n h (pc := 50) dX4_asks_50 0 rfl ?_
    refine g_get h (pc := 51) dX4_asks_51 iX4_asks_4 0 rfl rfl 20 (by decide) fX4_asks_62 rfl ?_
    refine g_aload_n h (pc := 54) dX4_asks_54 0 rfl ?_
    refine g_get h (pc := 55) dX4_asks_55 iX4_asks_4 0 rfl rfl 18 (by decide) fX4_asks_110 rfl ?_
    refine g_iload_n h (pc := 58) dX4_asks_58 2 rfl ?_
    refine g_iast h hw (pc := 59) (ws' := mw cI a (vu (vu v 0 d.2.1.length (nI s)) 1 d.2.1.length (nI k)) Z d.1 (nI d.2.1.length) (nI d.2.2.1.length)) dX4_asks_59 16 rfl (vp_in_nI (by have h9 : d.2.1.length ≤ sz d := Nat.le_add_right _ _; omega) (by omega)) (by rw [nI_clamp (by omega)]; rfl) ?_
    refine g_aload_n h (pc := 60) dX4_asks_60 0 rfl ?_
    refine g_get h (pc := 61) dX4_asks_61 iX4_asks_4 0 rfl rfl 21 (by decide) fX4_asks_65 rfl ?_
    refine g_aload_n h (pc := 64) dX4_asks_64 0 rfl ?_
    refine g_get h (pc := 65) dX4_asks_65 iX4_asks_4 0 rfl rfl 18 (by decide) fX4_asks_110 rfl ?_
    refine g_iload_n h (pc := 68) dX4_asks_68 3 rfl ?_
    refine g_iast h hw (pc := 69) (ws' := mw cI a (vu (vu (vu v 0 d.2.1.length (nI s)) 1 d.2.1.length (nI k)) 2 d.2.1.length 0) Z d.1 (nI d.2.1.length) (nI d.2.2.1.length)) dX4_asks_69 17 rfl (vp_in_nI (by have h9 : d.2.1.length ≤ sz d := Nat.le_add_right _ _; omega) (by omega)) (by rw [nI_clamp (by omega)]; rfl) ?_
    refine g_aload_n h (pc := 70) dX4_asks_70 0 rfl ?_
    refine g_get h (pc := 71) dX4_asks_71 iX4_asks_4 0 rfl rfl 22 (by decide) fX4_asks_68 rfl ?_
    refine g_aload_n h (pc := 74) dX4_asks_74 0 rfl ?_
    refine g_get h (pc := 75) dX4_asks_75 iX4_asks_4 0 rfl rfl 18 (by decide) fX4_asks_110 rfl ?_
    refine g_iload h (pc := 78) dX4_asks_78 4 rfl ?_
    refine g_iast h hw (pc := 80) (ws' := mw cI a (vu (vu (vu (vu v 0 d.2.1.length (nI s)) 1 d.2.1.length (nI k)) 2 d.2.1.length 0) 3 d.2.1.length (-1)) Z d.1 (nI d.2.1.length) (nI d.2.2.1.length)) dX4_asks_80 18 rfl (vp_in_nI (by have h9 : d.2.1.length ≤ sz d := Nat.le_add_right _ _; omega) (by omega)) (by rw [nI_clamp (by omega)]; rfl) ?_
    refine g_aload_n h (pc := 81) dX4_asks_81 0 rfl ?_
    refine g_get h (pc := 82) dX4_asks_82 iX4_asks_4 0 rfl rfl 23 (by decide) fX4_asks_71 rfl ?_
    refine g_aload_n h (pc := 85) dX4_asks_85 0 rfl ?_
    refine g_get h (pc := 86) dX4_asks_86 iX4_asks_4 0 rfl rfl 18 (by decide) fX4_asks_110 rfl ?_
    refine g_aload_n h (pc := 89) dX4_asks_89 0 rfl ?_
    refine g_get h (pc := 90) dX4_asks_90 iX4_asks_4 0 rfl rfl 12 (by decide) fX4_asks_116 rfl ?_
    refine g_iast h hw (pc := 93) (ws' := mw cI a (vu (vu (vu (vu (vu v 0 d.2.1.length (nI s)) 1 d.2.1.length (nI k)) 2 d.2.1.length 0) 3 d.2.1.length (-1)) 4 d.2.1.length (Z 14 0 2)) Z d.1 (nI d.2.1.length) (nI d.2.2.1.length)) dX4_asks_93 19 rfl (vp_in_nI (by have h9 : d.2.1.length ≤ sz d := Nat.le_add_right _ _; omega) (by omega)) (by rw [nI_clamp (by omega)]; rfl) ?_
    refine g_aload_n h (pc := 94) dX4_asks_94 0 rfl ?_
    refine g_dup h (pc := 95) dX4_asks_95 rfl ?_
    refine g_get h (pc := 96) dX4_asks_96 iX4_asks_4 0 rfl rfl 18 (by decide) fX4_asks_110 rfl ?_
    refine g_iconst h (pc := 99) (v := 1) dX4_asks_99 (by decide) ?_
    refine g_iadd h (pc := 100) dX4_asks_100  ?_
    refine g_topi (y := nI (dA d (nI s, nI k, 0, Z 14 0 2, (-1))).2.1.length) (by rw [nI_1]; unfold dA; rw [List.length_append]; rfl) ?_
    refine g_put h hw (pc := 101) (ws' := mw cI a (vu (vu (vu (vu (vu v 0 d.2.1.length (nI s)) 1 d.2.1.length (nI k)) 2 d.2.1.length 0) 3 d.2.1.length (-1)) 4 d.2.1.length (Z 14 0 2)) Z d.1 (nI (dA d (nI s, nI k, 0, Z 14 0 2, (-1))).2.1.length) (nI d.2.2.1.length)) (ty := .int) dX4_asks_101 iX4_asks_4 tyX4 tyX4_ok nmX4 0 rfl rfl 18 (by decide) fX4_asks_110 rfl (by decide +kernel) rfl rfl (Nat.le_of_ble_eq_true rfl) rfl ?_
    refine g_iconst h (pc := 104) (v := 0) dX4_asks_104 (by decide) ?_
    exact hret _ (vp5 v 0 d.2.1.length (nI s) (nI k) 0 (-1) (Z 14 0 2)) dX4_asks_105 (by decide) ⟨rfl, hRM.pushA (nI s) (nI k) 0 (Z 14 0 2) (-1)⟩ rfl (Nat.le_refl _) (Nat.le_refl _)
  · have e1 : (machine Z d s k) = (inc (dG d 7 s k (d.1 7 s k - 1)) 11 k) := if_neg hg
    rw [e1, if_neg hg] at hret
    have ez : sz (dG d 7 s k (d.1 7 s k - 1)) = sz d := rfl
    refine g_if_le_f h (pc := 11) (tgt := 40) dX4_asks_11 (by decide) (fun q => hg (hgz.mp q)) ?_
    refine g_aload_n h (pc := 14) dX4_asks_14 0 rfl ?_
    refine g_get h (pc := 15) dX4_asks_15 iX4_asks_4 0 rfl rfl 10 (by decide) fX4_asks_38 rfl ?_
    refine g_bipush h (pc := 18) (v := 8) dX4_asks_18 (by decide) ?_
    refine g_iload_n h (pc := 20) dX4_asks_20 1 rfl ?_
    refine g_imul h (pc := 21) dX4_asks_21  ?_
    refine g_iload_n h (pc := 22) dX4_asks_22 2 rfl ?_
    refine g_iadd h (pc := 23) dX4_asks_23  ?_
    refine g_topi (nI_83 s k) ?_
    refine g_dup2 h (pc := 24) dX4_asks_24 rfl rfl ?_
    refine g_iald h (pc := 25) (v := d.1 7 s k) dX4_asks_25 8 rfl (vp_in_nI (by omega) (by omega)) (by rw [nI_clamp (by omega)]; exact fl2_at _ (by omega)) ?_
    refine g_iconst h (pc := 26) (v := 1) dX4_asks_26 (by decide) ?_
    refine g_isub h (pc := 27) dX4_asks_27  ?_
    refine g_iast h hw (pc := 28) (ws' := mw cI a v Z (su d.1 7 s k (d.1 7 s k - 1)) (nI d.2.1.length) (nI d.2.2.1.length)) dX4_asks_28 8 rfl (vp_in_nI (by omega) (by omega)) (by rw [nI_clamp (by omega)]; exact mw_gs cI a v Z d.1 (nI d.2.1.length) (nI d.2.2.1.length) s (by omega) _) ?_
    refine g_aload_n h (pc := 29) dX4_asks_29 0 rfl ?_
    refine g_iload_n h (pc := 30) dX4_asks_30 1 rfl ?_
    refine g_iload_n h (pc := 31) dX4_asks_31 2 rfl ?_
    refine g_iload_n h (pc := 32) dX4_asks_32 3 rfl ?_
    refine g_iload h (pc := 33) dX4_asks_33 4 rfl ?_
    refine g_eq (ws' := mwd cI a v Z (dG d 7 s k (d.1 7 s k - 1))) rfl ?_
    refine g_callV h (pc := 35) (As := [.int (nI s), .int (nI k), .int 0, .int (-1)]) (st := []) dX4_asks_35 (m_serve0 (gL C) (gD C) cI cO a v Z (dG d 7 s k (d.1 7 s k - 1)) hRM ns nk hz s k hk (-1)) hw gX4_asks_X4_serves rfl (q0 := 0) rfl rfl (show nPar yX4_serves RX4 4 = true by decide +kernel) ⟨Nat.le_of_ble_eq_true rfl, Nat.le_of_ble_eq_true rfl⟩ rfl (Nat.le_of_ble_eq_true rfl) ⟨Nat.zero_le _, Nat.zero_le _⟩ (fun v2 hR2 => ?_)
    refine g_iconst h (pc := 38) (v := 1) dX4_asks_38 (by decide) ?_
    exact hret _ v2 dX4_asks_39 (by decide) ⟨rfl, hR2⟩ rfl (Nat.le_refl _) (Nat.le_refl _)

/-- an ask by a shelf below -/
def ask1 (Z : Sg) (d : Dy) (s k x : Nat) : Dy := if d.1 7 s k = 0 then dA d (nI s, nI k, 1, Z 14 0 2, nI x) else down Z (dG d 7 s k (d.1 7 s k - 1)) x k

set_option maxHeartbeats 4000000 in
set_option maxRecDepth 100000 in
theorem m_asks1 (l : Launch) (D : va_G) (cI cO : ClassId) (a : Nat → Nat) (v : MX) (Z : Sg) (d : Dy) (hRM : RM d v) (ns nk : Nat) (hz : Zv ns nk Z)  (hsz : sz d ≤ 5900) (B : Nat) (hB : B < 1000000000) (hG : Gd B d) (s k x : Nat) (hs : s < ns) (hk : k < nk) (hx : x < ns) : CIm l yX4_asks wsX4_asks 2 52 D cI cO a v Z d [.int (nI s), .int (nI k), .int 1, .int (nI x)] (if d.1 7 s k = 0 then 0 else 1) Z (ask1 Z d s k x) := by
  unfold CIm
  refine CI.of (cc := cX4_asks) (maxL := 5) (rt := .boolean) (by decide) rfl (Nat.le_of_ble_eq_true rfl) ?_
  intro C hgL hgD hw h hret
  have hn8 := hz.n8
  have hk8 := hz.k8
  have hgz := hG.z hB (s := s) (k := k) (by omega) (by omega)
  refine g_aload_n h (pc := 0) dX4_asks_0 0 rfl ?_
  refine g_get h (pc := 1) dX4_asks_1 iX4_asks_4 0 rfl rfl 10 (by decide) fX4_asks_38 rfl ?_
  refine g_bipush h (pc := 4) (v := 8) dX4_asks_4 (by decide) ?_
  refine g_iload_n h (pc := 6) dX4_asks_6 1 rfl ?_
  refine g_imul h (pc := 7) dX4_asks_7  ?_
  refine g_iload_n h (pc := 8) dX4_asks_8 2 rfl ?_
  refine g_iadd h (pc := 9) dX4_asks_9  ?_
  refine g_topi (nI_83 s k) ?_
  refine g_iald h (pc := 10) (v := d.1 7 s k) dX4_asks_10 8 rfl (vp_in_nI (by omega) (by omega)) (by rw [nI_clamp (by omega)]; exact fl2_at _ (by omega)) ?_
  by_cases hg : d.1 7 s k = 0
  · have e1 : (ask1 Z d s k x) = dA d (nI s, nI k, 1, Z 14 0 2, (nI x)) := if_pos hg
    rw [e1, if_pos hg] at hret
    refine g_if_le_t h (pc := 11) (tgt := 40) dX4_asks_11 (by decide) (hgz.mpr hg) ?_
    have hla : d.2.1.length ≤ sz d := Nat.le_add_right _ _
    refine g_aload_n h (pc := 40) dX4_asks_40 0 rfl ?_
    refine g_get h (pc := 41) dX4_asks_41 iX4_asks_4 0 rfl rfl 19 (by decide) fX4_asks_59 rfl ?_
    refine g_aload_n h (pc := 44) dX4_asks_44 0 rfl ?_
    refine g_get h (pc := 45) dX4_asks_45 iX4_asks_4 0 rfl rfl 18 (by decide) fX4_asks_110 rfl ?_
    refine g_iload_n h (pc := 48) dX4_asks_48 1 rfl ?_
    refine g_iast h hw (pc := 49) (ws' := mw cI a (vu v 0 d.2.1.length (nI s)) Z d.1 (nI d.2.1.length) (nI d.2.2.1.length)) dX4_asks_49 15 rfl (vp_in_nI (by have h9 : d.2.1.length ≤ sz d := Nat.le_add_right _ _; omega) (by omega)) (by rw [nI_clamp (by omega)]; rfl) ?_
    refine g_aload_n h (pc := 50) dX4_asks_50 0 rfl ?_
    refine g_get h (pc := 51) dX4_asks_51 iX4_asks_4 0 rfl rfl 20 (by decide) fX4_asks_62 rfl ?_
    refine g_aload_n h (pc := 54) dX4_asks_54 0 rfl ?_
    refine g_get h (pc := 55) dX4_asks_55 iX4_asks_4 0 rfl rfl 18 (by decide) fX4_asks_110 rfl ?_
    refine g_iload_n h (pc := 58) dX4_asks_58 2 rfl ?_
    refine g_iast h hw (pc := 59) (ws' := mw cI a (vu (vu v 0 d.2.1.length (nI s)) 1 d.2.1.length (nI k)) Z d.1 (nI d.2.1.length) (nI d.2.2.1.length)) dX4_asks_59 16 rfl (vp_in_nI (by have h9 : d.2.1.length ≤ sz d := Nat.le_add_right _ _; omega) (by omega)) (by rw [nI_clamp (by omega)]; rfl) ?_
    refine g_aload_n h (pc := 60) dX4_asks_60 0 rfl ?_
    refine g_get h (pc := 61) dX4_asks_61 iX4_asks_4 0 rfl rfl 21 (by decide) fX4_asks_65 rfl ?_
    refine g_aload_n h (pc := 64) dX4_asks_64 0 rfl ?_
    refine g_get h (pc := 65) dX4_asks_65 iX4_asks_4 0 rfl rfl 18 (by decide) fX4_asks_110 rfl ?_
    refine g_iload_n h (pc := 68) dX4_asks_68 3 rfl ?_
    refine g_iast h hw (pc := 69) (ws' := mw cI a (vu (vu (vu v 0 d.2.1.length (nI s)) 1 d.2.1.length (nI k)) 2 d.2.1.length 1) Z d.1 (nI d.2.1.length) (nI d.2.2.1.length)) dX4_asks_69 17 rfl (vp_in_nI (by have h9 : d.2.1.length ≤ sz d := Nat.le_add_right _ _; omega) (by omega)) (by rw [nI_clamp (by omega)]; rfl) ?_
    refine g_aload_n h (pc := 70) dX4_asks_70 0 rfl ?_
    refine g_get h (pc := 71) dX4_asks_71 iX4_asks_4 0 rfl rfl 22 (by decide) fX4_asks_68 rfl ?_
    refine g_aload_n h (pc := 74) dX4_asks_74 0 rfl ?_
    refine g_get h (pc := 75) dX4_asks_75 iX4_asks_4 0 rfl rfl 18 (by decide) fX4_asks_110 rfl ?_
    refine g_iload h (pc := 78) dX4_asks_78 4 rfl ?_
    refine g_iast h hw (pc := 80) (ws' := mw cI a (vu (vu (vu (vu v 0 d.2.1.length (nI s)) 1 d.2.1.length (nI k)) 2 d.2.1.length 1) 3 d.2.1.length (nI x)) Z d.1 (nI d.2.1.length) (nI d.2.2.1.length)) dX4_asks_80 18 rfl (vp_in_nI (by have h9 : d.2.1.length ≤ sz d := Nat.le_add_right _ _; omega) (by omega)) (by rw [nI_clamp (by omega)]; rfl) ?_
    refine g_aload_n h (pc := 81) dX4_asks_81 0 rfl ?_
    refine g_get h (pc := 82) dX4_asks_82 iX4_asks_4 0 rfl rfl 23 (by decide) fX4_asks_71 rfl ?_
    refine g_aload_n h (pc := 85) dX4_asks_85 0 rfl ?_
    refine g_get h (pc := 86) dX4_asks_86 iX4_asks_4 0 rfl rfl 18 (by decide) fX4_asks_110 rfl ?_
    refine g_aload_n h (pc := 89) dX4_asks_89 0 rfl ?_
    refine g_get h (pc := 90) dX4_asks_90 iX4_asks_4 0 rfl rfl 12 (by decide) fX4_asks_116 rfl ?_
    refine g_iast h hw (pc := 93) (ws' := mw cI a (vu (vu (vu (vu (vu v 0 d.2.1.length (nI s)) 1 d.2.1.length (nI k)) 2 d.2.1.length 1) 3 d.2.1.length (nI x)) 4 d.2.1.length (Z 14 0 2)) Z d.1 (nI d.2.1.length) (nI d.2.2.1.length)) dX4_asks_93 19 rfl (vp_in_nI (by have h9 : d.2.1.length ≤ sz d := Nat.le_add_right _ _; omega) (by omega)) (by rw [nI_clamp (by omega)]; rfl) ?_
    refine g_aload_n h (pc := 94) dX4_asks_94 0 rfl ?_
    refine g_dup h (pc := 95) dX4_asks_95 rfl ?_
    refine g_get h (pc := 96) dX4_asks_96 iX4_asks_4 0 rfl rfl 18 (by decide) fX4_asks_110 rfl ?_
    refine g_iconst h (pc := 99) (v := 1) dX4_asks_99 (by decide) ?_
    refine g_iadd h (pc := 100) dX4_asks_100  ?_
    refine g_topi (y := nI (dA d (nI s, nI k, 1, Z 14 0 2, (nI x))).2.1.length) (by rw [nI_1]; unfold dA; rw [List.length_append]; rfl) ?_
    refine g_put h hw (pc := 101) (ws' := mw cI a (vu (vu (vu (vu (vu v 0 d.2.1.length (nI s)) 1 d.2.1.length (nI k)) 2 d.2.1.length 1) 3 d.2.1.length (nI x)) 4 d.2.1.length (Z 14 0 2)) Z d.1 (nI (dA d (nI s, nI k, 1, Z 14 0 2, (nI x))).2.1.length) (nI d.2.2.1.length)) (ty := .int) dX4_asks_101 iX4_asks_4 tyX4 tyX4_ok nmX4 0 rfl rfl 18 (by decide) fX4_asks_110 rfl (by decide +kernel) rfl rfl (Nat.le_of_ble_eq_true rfl) rfl ?_
    refine g_iconst h (pc := 104) (v := 0) dX4_asks_104 (by decide) ?_
    exact hret _ (vp5 v 0 d.2.1.length (nI s) (nI k) 1 (nI x) (Z 14 0 2)) dX4_asks_105 (by decide) ⟨rfl, hRM.pushA (nI s) (nI k) 1 (Z 14 0 2) (nI x)⟩ rfl (Nat.le_refl _) (Nat.le_refl _)
  · have e1 : (ask1 Z d s k x) = (down Z (dG d 7 s k (d.1 7 s k - 1)) x k) := if_neg hg
    rw [e1, if_neg hg] at hret
    have ez : sz (dG d 7 s k (d.1 7 s k - 1)) = sz d := rfl
    refine g_if_le_f h (pc := 11) (tgt := 40) dX4_asks_11 (by decide) (fun q => hg (hgz.mp q)) ?_
    refine g_aload_n h (pc := 14) dX4_asks_14 0 rfl ?_
    refine g_get h (pc := 15) dX4_asks_15 iX4_asks_4 0 rfl rfl 10 (by decide) fX4_asks_38 rfl ?_
    refine g_bipush h (pc := 18) (v := 8) dX4_asks_18 (by decide) ?_
    refine g_iload_n h (pc := 20) dX4_asks_20 1 rfl ?_
    refine g_imul h (pc := 21) dX4_asks_21  ?_
    refine g_iload_n h (pc := 22) dX4_asks_22 2 rfl ?_
    refine g_iadd h (pc := 23) dX4_asks_23  ?_
    refine g_topi (nI_83 s k) ?_
    refine g_dup2 h (pc := 24) dX4_asks_24 rfl rfl ?_
    refine g_iald h (pc := 25) (v := d.1 7 s k) dX4_asks_25 8 rfl (vp_in_nI (by omega) (by omega)) (by rw [nI_clamp (by omega)]; exact fl2_at _ (by omega)) ?_
    refine g_iconst h (pc := 26) (v := 1) dX4_asks_26 (by decide) ?_
    refine g_isub h (pc := 27) dX4_asks_27  ?_
    refine g_iast h hw (pc := 28) (ws' := mw cI a v Z (su d.1 7 s k (d.1 7 s k - 1)) (nI d.2.1.length) (nI d.2.2.1.length)) dX4_asks_28 8 rfl (vp_in_nI (by omega) (by omega)) (by rw [nI_clamp (by omega)]; exact mw_gs cI a v Z d.1 (nI d.2.1.length) (nI d.2.2.1.length) s (by omega) _) ?_
    refine g_aload_n h (pc := 29) dX4_asks_29 0 rfl ?_
    refine g_iload_n h (pc := 30) dX4_asks_30 1 rfl ?_
    refine g_iload_n h (pc := 31) dX4_asks_31 2 rfl ?_
    refine g_iload_n h (pc := 32) dX4_asks_32 3 rfl ?_
    refine g_iload h (pc := 33) dX4_asks_33 4 rfl ?_
    refine g_eq (ws' := mwd cI a v Z (dG d 7 s k (d.1 7 s k - 1))) rfl ?_
    refine g_callV h (pc := 35) (As := [.int (nI s), .int (nI k), .int 1, .int (nI x)]) (st := []) dX4_asks_35 (m_serve1 (gL C) (gD C) cI cO a v Z (dG d 7 s k (d.1 7 s k - 1)) hRM ns nk hz (by omega) s k x hk hx) hw gX4_asks_X4_serves rfl (q0 := 0) rfl rfl (show nPar yX4_serves RX4 4 = true by decide +kernel) ⟨Nat.le_of_ble_eq_true rfl, Nat.le_of_ble_eq_true rfl⟩ rfl (Nat.le_of_ble_eq_true rfl) ⟨Nat.zero_le _, Nat.zero_le _⟩ (fun v2 hR2 => ?_)
    refine g_iconst h (pc := 38) (v := 1) dX4_asks_38 (by decide) ?_
    exact hret _ v2 dX4_asks_39 (by decide) ⟨rfl, hR2⟩ rfl (Nat.le_refl _) (Nat.le_refl _)

theorem iX4_asksUp_4 : ∀ w ∈ wsX40, w ∈ wsX4_asksUp := by decide +kernel
theorem fX4_asksUp_26 : Cond.fieldLink RX4 26 "SpareShelvesModel" "up" "[I" ∈ wsX4_asksUp := by decide +kernel
set_option maxHeartbeats 4000000 in
set_option maxRecDepth 100000 in
theorem m_ups (l : Launch) (D : va_G) (cI cO : ClassId) (a : Nat → Nat) (v : MX) (Z : Sg) (d : Dy) (hRM : RM d v) (ns nk : Nat) (hz : Zv ns nk Z)  (hsz : sz d ≤ 5850) (B : Nat) (hB : B < 1000000000) (hG : Gd B d) (s k e : Nat) (hs : s < ns) (hk : k < nk) (hr : rch Z e 8 s) : CVm l yX4_asksUp wsX4_asksUp 3 78 D cI cO a v Z d [.int (nI s), .int (nI k), .int (nI e)] Z (ups Z k e 8 s d) := by
  unfold CVm
  refine CV.of (cc := cX4_asksUp) (maxL := 6) (by decide) rfl (Nat.le_of_ble_eq_true rfl) ?_
  intro C hgL hgD hw h hret
  have hn8 := hz.n8
  have hk8 := hz.k8
  refine g_iload_n h (pc := 0) dX4_asksUp_0 1 rfl ?_
  refine g_istore h (pc := 1) dX4_asksUp_1 (by decide) rfl ?_
  suffices loop : ∀ (n x : Nat) (d1 : Dy) (v1 : MX), x < ns → rch Z e n x → ups Z k e n x d1 = (ups Z k e 8 s d) → RM d1 v1 → Gd B d1 → sz d1 + n ≤ 5870 → GG C 6 (mwd cI a v1 Z d1) 0 0 3 [(0, .ref (a 0)), (1, .int (nI s)), (2, .int (nI k)), (3, .int (nI e)), (4, .int (nI x))] [] from loop 8 s d v hs hr rfl hRM hG (by omega)
  intro n
  induction n with
  | zero =>
    intro x d1 v1 h2 h3 hm hR1 hG1 hz1
    rw [rch] at h3
    subst h3
    refine g_iload h (pc := 3) dX4_asksUp_3 4 rfl ?_
    refine g_iload_n h (pc := 5) dX4_asksUp_5 3 rfl ?_
    refine g_icmp_eq_t h (pc := 6) (tgt := 38) dX4_asksUp_6 (by decide) rfl ?_
    rw [ups] at hm
    subst hm
    exact hret v1 dX4_asksUp_38 hR1 rfl (Nat.le_refl _) (Nat.le_refl _)
  | succ n ih =>
    intro x d1 v1 h2 h3 hm hR1 hG1 hz1
    have hle := rch_le hz (n + 1) x h2 h3
    refine g_iload h (pc := 3) dX4_asksUp_3 4 rfl ?_
    refine g_iload_n h (pc := 5) dX4_asksUp_5 3 rfl ?_
    by_cases hx : x = e
    · subst hx
      refine g_icmp_eq_t h (pc := 6) (tgt := 38) dX4_asksUp_6 (by decide) rfl ?_
      rw [ups, if_pos rfl] at hm
      subst hm
      exact hret v1 dX4_asksUp_38 hR1 rfl (Nat.le_refl _) (Nat.le_refl _)
    · refine g_icmp_eq_f h (pc := 6) (tgt := 38) dX4_asksUp_6 (by decide) (fun q => hx ((nI_eq (by omega) (by omega)).mp q)) ?_
      rw [rch] at h3
      obtain ⟨h0, h3⟩ := h3.resolve_left hx
      have h4 := hz.lt h0 h2
      rw [ups, if_neg hx] at hm
      have z1 := sz_up1 Z d1 x k
      refine g_aload_n h (pc := 9) dX4_asksUp_9 0 rfl ?_
      refine g_aload_n h (pc := 10) dX4_asksUp_10 0 rfl ?_
      refine g_get h (pc := 11) dX4_asksUp_11 iX4_asksUp_4 0 rfl rfl 6 (by decide) fX4_asksUp_26 rfl ?_
      refine g_iload h (pc := 14) dX4_asksUp_14 4 rfl ?_
      refine g_iald h (pc := 16) (v := nI (upx Z x)) dX4_asksUp_16 4 rfl (vp_in_nI (by omega) (by omega)) (by rw [nI_clamp (by omega)]; exact hz.up h0 h2) ?_
      refine g_iload_n h (pc := 17) dX4_asksUp_17 2 rfl ?_
      refine g_iconst h (pc := 18) (v := 1) dX4_asksUp_18 (by decide) ?_
      refine g_iload h (pc := 19) dX4_asksUp_19 4 rfl ?_
      refine g_callI h (pc := 21) (As := [.int (nI (upx Z x)), .int (nI k), .int 1, .int (nI x)]) (st := []) dX4_asksUp_21 (m_asks1 (gL C) (gD C) cI cO a v1 Z d1 hR1 ns nk hz (by omega) B hB hG1 (upx Z x) k x (by omega) hk h2) hw gX4_asksUp_X4_asks rfl (q0 := 0) rfl rfl (show nPar yX4_asks RX4 4 = true by decide +kernel) ⟨Nat.le_of_ble_eq_true rfl, Nat.le_of_ble_eq_true rfl⟩ rfl (Nat.le_of_ble_eq_true rfl) ⟨Nat.zero_le _, Nat.zero_le _⟩ (fun r v2 hR2 => ?_)
      obtain ⟨rfl, hR2⟩ := hR2
      refine g_istore h (pc := 24) dX4_asksUp_24 (by decide) rfl ?_
      refine g_aload_n h (pc := 26) dX4_asksUp_26 0 rfl ?_
      refine g_get h (pc := 27) dX4_asksUp_27 iX4_asksUp_4 0 rfl rfl 6 (by decide) fX4_asksUp_26 rfl ?_
      refine g_iload h (pc := 30) dX4_asksUp_30 4 rfl ?_
      refine g_iald h (pc := 32) (v := nI (upx Z x)) dX4_asksUp_32 4 rfl (vp_in_nI (by omega) (by omega)) (by rw [nI_clamp (by omega)]; exact hz.up h0 h2) ?_
      refine g_istore h (pc := 33) dX4_asksUp_33 (by decide) rfl ?_
      refine g_goto h (pc := 35) (tgt := 3) dX4_asksUp_35 (by decide) ?_
      refine g_lvp [0, 1, 2, 3, 4] rfl ?_
      exact ih (upx Z x) (up1 Z d1 x k) v2 (by omega) h3 hm hR2 (gd_up1 hz hG1 h0 h2 hk) (by omega)

theorem iX4_arrives_4 : ∀ w ∈ wsX40, w ∈ wsX4_arrives := by decide +kernel
theorem fX4_arrives_35 : Cond.fieldLink RX4 35 "SpareShelvesModel" "mends" "[I" ∈ wsX4_arrives := by decide +kernel
set_option maxHeartbeats 4000000 in
set_option maxRecDepth 100000 in
theorem m_arrP (l : Launch) (D : va_G) (cI cO : ClassId) (a : Nat → Nat) (v : MX) (Z : Sg) (d : Dy) (hRM : RM d v) (ns nk : Nat) (hz : Zv ns nk Z)  (hsz : sz d ≤ 5950) (s k : Nat) (hs : s < ns) (hk : k < nk) (hm : ¬ Z 6 s k = 0) : CVm l yX4_arrives wsX4_arrives 1 26 D cI cO a v Z d [.int (nI s), .int (nI k), .int 0] Z (begins Z d s k) := by
  unfold CVm
  refine CV.of (cc := cX4_arrives) (maxL := 5) (by decide) rfl (Nat.le_of_ble_eq_true rfl) ?_
  intro C hgL hgD hw h hret
  have hn8 := hz.n8
  have hk8 := hz.k8
  refine g_aload_n h (pc := 0) dX4_arrives_0 0 rfl ?_
  refine g_get h (pc := 1) dX4_arrives_1 iX4_arrives_4 0 rfl rfl 9 (by decide) fX4_arrives_35 rfl ?_
  refine g_bipush h (pc := 4) (v := 8) dX4_arrives_4 (by decide) ?_
  refine g_iload_n h (pc := 6) dX4_arrives_6 1 rfl ?_
  refine g_imul h (pc := 7) dX4_arrives_7  ?_
  refine g_iload_n h (pc := 8) dX4_arrives_8 2 rfl ?_
  refine g_iadd h (pc := 9) dX4_arrives_9  ?_
  refine g_topi (nI_83 s k) ?_
  refine g_iald h (pc := 10) (v := Z 6 s k) dX4_arrives_10 7 rfl (vp_in_nI (by omega) (by omega)) (by rw [nI_clamp (by omega)]; exact fl2_at _ (by omega)) ?_
  refine g_if_ne_t h (pc := 11) (tgt := 24) dX4_arrives_11 (by decide) hm ?_
  refine g_iload_n h (pc := 24) dX4_arrives_24 3 rfl ?_
  refine g_if_ne_f h (pc := 25) (tgt := 50) dX4_arrives_25 (by decide) rfl ?_
  refine g_aload_n h (pc := 28) dX4_arrives_28 0 rfl ?_
  refine g_iconst h (pc := 29) (v := 1) dX4_arrives_29 (by decide) ?_
  refine g_iload_n h (pc := 30) dX4_arrives_30 1 rfl ?_
  refine g_iload_n h (pc := 31) dX4_arrives_31 2 rfl ?_
  refine g_iconst h (pc := 32) (v := 0) dX4_arrives_32 (by decide) ?_
  refine g_aload_n h (pc := 33) dX4_arrives_33 0 rfl ?_
  refine g_get h (pc := 34) dX4_arrives_34 iX4_arrives_4 0 rfl rfl 9 (by decide) fX4_arrives_35 rfl ?_
  refine g_bipush h (pc := 37) (v := 8) dX4_arrives_37 (by decide) ?_
  refine g_iload_n h (pc := 39) dX4_arrives_39 1 rfl ?_
  refine g_imul h (pc := 40) dX4_arrives_40  ?_
  refine g_iload_n h (pc := 41) dX4_arrives_41 2 rfl ?_
  refine g_iadd h (pc := 42) dX4_arrives_42  ?_
  refine g_topi (nI_83 s k) ?_
  refine g_iald h (pc := 43) (v := Z 6 s k) dX4_arrives_43 7 rfl (vp_in_nI (by omega) (by omega)) (by rw [nI_clamp (by omega)]; exact fl2_at _ (by omega)) ?_
  refine g_callV h (pc := 44) (As := [.int 1, .int (nI s), .int (nI k), .int 0, .int (Z 6 s k)]) (st := []) dX4_arrives_44 (m_due (gL C) (gD C) cI cO a v Z d hRM ns nk hz (by have h9 : d.2.2.1.length ≤ sz d := Nat.le_add_left _ _; omega) 1 0 (Z 6 s k) s k) hw gX4_arrives_X4_due rfl (q0 := 0) rfl rfl (show nPar yX4_due RX4 5 = true by decide +kernel) ⟨Nat.le_of_ble_eq_true rfl, Nat.le_of_ble_eq_true rfl⟩ rfl (Nat.le_of_ble_eq_true rfl) ⟨Nat.zero_le _, Nat.zero_le _⟩ (fun v2 hR2 => ?_)
  refine g_goto h (pc := 47) (tgt := 65) dX4_arrives_47 (by decide) ?_
  exact hret v2 dX4_arrives_65 hR2 rfl (Nat.le_refl _) (Nat.le_refl _)

theorem iX4_goesBack_4 : ∀ w ∈ wsX40, w ∈ wsX4_goesBack := by decide +kernel
theorem fX4_goesBack_29 : Cond.fieldLink RX4 29 "SpareShelvesModel" "way" "[I" ∈ wsX4_goesBack := by decide +kernel
theorem fX4_goesBack_26 : Cond.fieldLink RX4 26 "SpareShelvesModel" "up" "[I" ∈ wsX4_goesBack := by decide +kernel
set_option maxHeartbeats 4000000 in
set_option maxRecDepth 100000 in
theorem m_back0 (l : Launch) (D : va_G) (cI cO : ClassId) (a : Nat → Nat) (v : MX) (Z : Sg) (d : Dy) (hRM : RM d v) (ns nk : Nat) (hz : Zv ns nk Z)  (hsz : sz d ≤ 5800) (s k : Nat) (hs : s < ns) (hk : k < nk) : CVm l yX4_goesBack wsX4_goesBack 2 52 D cI cO a v Z d [.int (nI s), .int (nI k), .int 0] Z (backP Z d s k) := by
  unfold CVm
  refine CV.of (cc := cX4_goesBack) (maxL := 7) (by decide) rfl (Nat.le_of_ble_eq_true rfl) ?_
  intro C hgL hgD hw h hret
  have hn8 := hz.n8
  have hk8 := hz.k8
  refine g_aload_n h (pc := 0) dX4_goesBack_0 0 rfl ?_
  refine g_iload_n h (pc := 1) dX4_goesBack_1 1 rfl ?_
  refine g_iload_n h (pc := 2) dX4_goesBack_2 2 rfl ?_
  refine g_callR h (pc := 3) (As := [.int (nI s), .int (nI k)]) (st := []) dX4_goesBack_3 (m_mender (gL C) (gD C) cI cO a v Z d hRM ns nk hz s k hs hk) [0, 1, 2, 3, 4, 5, 6, 7, 8, 9, 10, 11, 12, 13, 14, 15, 16, 17, 18, 19, 20, 21, 22, 23, 24] rfl (by decide) gX4_goesBack_X4_menderOf rfl (q0 := 0) rfl rfl (show nPar yX4_menderOf RX4 2 = true by decide +kernel) ⟨Nat.le_of_ble_eq_true rfl, Nat.le_of_ble_eq_true rfl⟩ rfl (Nat.le_of_ble_eq_true rfl) ⟨Nat.zero_le _, Nat.zero_le _⟩ (fun r hr => ?_)
  subst hr
  refine g_istore h (pc := 6) dX4_goesBack_6 (by decide) rfl ?_
  refine g_iconst h (pc := 8) (v := 0) dX4_goesBack_8 (by decide) ?_
  refine g_istore h (pc := 9) dX4_goesBack_9 (by decide) rfl ?_
  refine g_iload_n h (pc := 11) dX4_goesBack_11 1 rfl ?_
  refine g_istore h (pc := 12) dX4_goesBack_12 (by decide) rfl ?_
  have hmle := mOf_le hz hk hs
  obtain ⟨e, he⟩ : ∃ e, e = mOf Z k s := ⟨_, rfl⟩
  have hrch : rch Z e 8 s := by rw [he]; exact rch_mo hz hk 8 s hs
  rw [← he] at hmle ⊢
  suffices loop : ∀ (n x : Nat) (acc : Int32), x < ns → rch Z e n x → wy Z e n x acc = wy Z e 8 s 0 → GG C 7 (mwd cI a v Z d) 0 0 14 [(0, .ref (a 0)), (1, .int (nI s)), (2, .int (nI k)), (3, .int 0), (4, .int (nI e)), (5, .int acc), (6, .int (nI x))] [] from loop 8 s 0 hs hrch rfl
  have tl : GG C 7 (mwd cI a v Z d) 0 0 45 [(0, .ref (a 0)), (1, .int (nI s)), (2, .int (nI k)), (3, .int 0), (4, .int (nI e)), (5, .int (wy Z e 8 s 0)), (6, .int (nI e))] [] := by
    refine g_iload h (pc := 45) dX4_goesBack_45 4 rfl ?_
    refine g_iload_n h (pc := 47) dX4_goesBack_47 1 rfl ?_
    by_cases hse : e = s
    · have hm : ¬ Z 6 s k = 0 := by have h9 := mOf_nz hz hk hs; rw [← he, hse] at h9; exact h9
      have e1 : (backP Z d s k) = (begins Z d s k) := if_pos (by rw [← he]; exact hse)
      rw [e1] at hret
      refine g_icmp_ne_f h (pc := 48) (tgt := 61) dX4_goesBack_48 (by decide) (by rw [hse]) ?_
      refine g_aload_n h (pc := 51) dX4_goesBack_51 0 rfl ?_
      refine g_iload_n h (pc := 52) dX4_goesBack_52 1 rfl ?_
      refine g_iload_n h (pc := 53) dX4_goesBack_53 2 rfl ?_
      refine g_iload_n h (pc := 54) dX4_goesBack_54 3 rfl ?_
      refine g_callV h (pc := 55) (As := [.int (nI s), .int (nI k), .int 0]) (st := []) dX4_goesBack_55 (m_arrP (gL C) (gD C) cI cO a v Z d hRM ns nk hz (by omega) s k hs hk hm) hw gX4_goesBack_X4_arrives rfl (q0 := 0) rfl rfl (show nPar yX4_arrives RX4 3 = true by decide +kernel) ⟨Nat.le_of_ble_eq_true rfl, Nat.le_of_ble_eq_true rfl⟩ rfl (Nat.le_of_ble_eq_true rfl) ⟨Nat.zero_le _, Nat.zero_le _⟩ (fun v2 hR2 => ?_)
      refine g_goto h (pc := 58) (tgt := 72) dX4_goesBack_58 (by decide) ?_
      exact hret v2 dX4_goesBack_72 hR2 rfl (Nat.le_refl _) (Nat.le_refl _)
    · have e1 : (backP Z d s k) = sets Z d s k e 0 := (if_neg (by rw [← he]; exact hse)).trans (by rw [he])
      rw [e1] at hret
      refine g_icmp_ne_t h (pc := 48) (tgt := 61) dX4_goesBack_48 (by decide) (fun q => hse ((nI_eq (by omega) (by omega)).mp q)) ?_
      refine g_aload_n h (pc := 61) dX4_goesBack_61 0 rfl ?_
      refine g_iconst h (pc := 62) (v := 3) dX4_goesBack_62 (by decide) ?_
      refine g_iload h (pc := 63) dX4_goesBack_63 4 rfl ?_
      refine g_iload_n h (pc := 65) dX4_goesBack_65 2 rfl ?_
      refine g_iload_n h (pc := 66) dX4_goesBack_66 3 rfl ?_
      refine g_iload h (pc := 67) dX4_goesBack_67 5 rfl ?_
      refine g_callV h (pc := 69) (As := [.int 3, .int (nI e), .int (nI k), .int 0, .int (wy Z e 8 s 0)]) (st := []) dX4_goesBack_69 (m_due (gL C) (gD C) cI cO a v Z d hRM ns nk hz (by have h9 : d.2.2.1.length ≤ sz d := Nat.le_add_left _ _; omega) 3 0 (wy Z e 8 s 0) e k) hw gX4_goesBack_X4_due rfl (q0 := 0) rfl rfl (show nPar yX4_due RX4 5 = true by decide +kernel) ⟨Nat.le_of_ble_eq_true rfl, Nat.le_of_ble_eq_true rfl⟩ rfl (Nat.le_of_ble_eq_true rfl) ⟨Nat.zero_le _, Nat.zero_le _⟩ (fun v2 hR2 => ?_)
      exact hret v2 dX4_goesBack_72 hR2 rfl (Nat.le_refl _) (Nat.le_refl _)
  intro n
  induction n with
  | zero =>
    intro x acc h2 h3 hm
    rw [rch] at h3
    subst h3
    rw [wy] at hm
    refine g_iload h (pc := 14) dX4_goesBack_14 6 rfl ?_
    refine g_iload h (pc := 16) dX4_goesBack_16 4 rfl ?_
    refine g_icmp_eq_t h (pc := 18) (tgt := 45) dX4_goesBack_18 (by decide) rfl ?_
    rw [hm]
    exact tl
  | succ n ih =>
    intro x acc h2 h3 hm
    have hle := rch_le hz (n + 1) x h2 h3
    refine g_iload h (pc := 14) dX4_goesBack_14 6 rfl ?_
    refine g_iload h (pc := 16) dX4_goesBack_16 4 rfl ?_
    by_cases hx : x = e
    · subst hx
      rw [wy, if_pos rfl] at hm
      refine g_icmp_eq_t h (pc := 18) (tgt := 45) dX4_goesBack_18 (by decide) rfl ?_
      rw [hm]
      exact tl
    · refine g_icmp_eq_f h (pc := 18) (tgt := 45) dX4_goesBack_18 (by decide) (fun q => hx ((nI_eq (by omega) (by omega)).mp q)) ?_
      rw [rch] at h3
      obtain ⟨h0, h3⟩ := h3.resolve_left hx
      have h4 := hz.lt h0 h2
      rw [wy, if_neg hx] at hm
      refine g_iload h (pc := 21) dX4_goesBack_21 5 rfl ?_
      refine g_aload_n h (pc := 23) dX4_goesBack_23 0 rfl ?_
      refine g_get h (pc := 24) dX4_goesBack_24 iX4_goesBack_4 0 rfl rfl 7 (by decide) fX4_goesBack_29 rfl ?_
      refine g_iload h (pc := 27) dX4_goesBack_27 6 rfl ?_
      refine g_iald h (pc := 29) (v := Z 4 0 x) dX4_goesBack_29 5 rfl (vp_in_nI (by omega) (by omega)) (by rw [nI_clamp (by omega)]) ?_
      refine g_iadd h (pc := 30) dX4_goesBack_30  ?_
      refine g_istore h (pc := 31) dX4_goesBack_31 (by decide) rfl ?_
      refine g_aload_n h (pc := 33) dX4_goesBack_33 0 rfl ?_
      refine g_get h (pc := 34) dX4_goesBack_34 iX4_goesBack_4 0 rfl rfl 6 (by decide) fX4_goesBack_26 rfl ?_
      refine g_iload h (pc := 37) dX4_goesBack_37 6 rfl ?_
      refine g_iald h (pc := 39) (v := nI (upx Z x)) dX4_goesBack_39 4 rfl (vp_in_nI (by omega) (by omega)) (by rw [nI_clamp (by omega)]; exact hz.up h0 h2) ?_
      refine g_istore h (pc := 40) dX4_goesBack_40 (by decide) rfl ?_
      refine g_goto h (pc := 42) (tgt := 14) dX4_goesBack_42 (by decide) ?_
      exact ih (upx Z x) _ (by omega) h3 hm

theorem fX4_serves_53 : Cond.fieldLink RX4 53 "SpareShelvesModel" "cores" "[I" ∈ wsX4_serves := by decide +kernel
theorem fX4_serves_56 : Cond.fieldLink RX4 56 "SpareShelvesModel" "broke" "[I" ∈ wsX4_serves := by decide +kernel
theorem fX4_serves_35 : Cond.fieldLink RX4 35 "SpareShelvesModel" "mends" "[I" ∈ wsX4_serves := by decide +kernel
set_option maxHeartbeats 4000000 in
set_option maxRecDepth 100000 in
theorem m_serve2 (l : Launch) (D : va_G) (cI cO : ClassId) (a : Nat → Nat) (v : MX) (Z : Sg) (d : Dy) (hRM : RM d v) (ns nk : Nat) (hz : Zv ns nk Z)  (hsz : sz d ≤ 5700) (B : Nat) (hB : B < 1000000000) (hG : Gd B d) (s c q : Nat) (hs : s < ns) (hc : c < nk) (hq : q < nk) : CVm l yX4_serves wsX4_serves 4 105 D cI cO a v Z d [.int (nI s), .int (nI c), .int 2, .int (nI q)] Z (serveM Z d s c q) := by
  unfold CVm
  refine CV.of (cc := cX4_serves) (maxL := 5) (by decide) rfl (Nat.le_of_ble_eq_true rfl) ?_
  intro C hgL hgD hw h hret
  have hn8 := hz.n8
  have hk8 := hz.k8
  have z0 : sz (inc (inc d 12 c) 13 c) = sz d := rfl
  have z1 : sz (backP Z (inc (inc d 12 c) 13 c) s c) = sz d + 1 := sz_backP Z (inc (inc d 12 c) 13 c) s c
  have z2 : sz (ups Z c (mOf Z c s) 8 s (backP Z (inc (inc d 12 c) 13 c) s c)) ≤ sz (backP Z (inc (inc d 12 c) 13 c) s c) + 8 := sz_ups _ _ _ _ _ _
  refine g_iload_n h (pc := 0) dX4_serves_0 3 rfl ?_
  refine g_if_ne_t h (pc := 1) (tgt := 17) dX4_serves_1 (by decide) (by decide) ?_
  refine g_iload_n h (pc := 17) dX4_serves_17 3 rfl ?_
  refine g_iconst h (pc := 18) (v := 1) dX4_serves_18 (by decide) ?_
  refine g_icmp_ne_t h (pc := 19) (tgt := 41) dX4_serves_19 (by decide) (by decide) ?_
  refine g_aload_n h (pc := 41) dX4_serves_41 0 rfl ?_
  refine g_get h (pc := 42) dX4_serves_42 iX4_serves_4 0 rfl rfl 16 (by decide) fX4_serves_53 rfl ?_
  refine g_iload_n h (pc := 45) dX4_serves_45 2 rfl ?_
  refine g_dup2 h (pc := 46) dX4_serves_46 rfl rfl ?_
  refine g_iald h (pc := 47) (v := d.1 12 0 c) dX4_serves_47 13 rfl (vp_in_nI (by omega) (by omega)) (by rw [nI_clamp (by omega)]) ?_
  refine g_iconst h (pc := 48) (v := 1) dX4_serves_48 (by decide) ?_
  refine g_iadd h (pc := 49) dX4_serves_49  ?_
  refine g_iast h hw (pc := 50) (ws' := mw cI a v Z (inc d 12 c).1 (nI d.2.1.length) (nI d.2.2.1.length)) dX4_serves_50 13 rfl (vp_in_nI (by omega) (by omega)) (by rw [nI_clamp (by omega)]; rfl) ?_
  refine g_aload_n h (pc := 51) dX4_serves_51 0 rfl ?_
  refine g_get h (pc := 52) dX4_serves_52 iX4_serves_4 0 rfl rfl 17 (by decide) fX4_serves_56 rfl ?_
  refine g_iload_n h (pc := 55) dX4_serves_55 2 rfl ?_
  refine g_dup2 h (pc := 56) dX4_serves_56 rfl rfl ?_
  refine g_iald h (pc := 57) (v := (inc d 12 c).1 13 0 c) dX4_serves_57 14 rfl (vp_in_nI (by omega) (by omega)) (by rw [nI_clamp (by omega)]) ?_
  refine g_iconst h (pc := 58) (v := 1) dX4_serves_58 (by decide) ?_
  refine g_iadd h (pc := 59) dX4_serves_59  ?_
  refine g_iast h hw (pc := 60) (ws' := mw cI a v Z (inc (inc d 12 c) 13 c).1 (nI d.2.1.length) (nI d.2.2.1.length)) dX4_serves_60 14 rfl (vp_in_nI (by omega) (by omega)) (by rw [nI_clamp (by omega)]; rfl) ?_
  refine g_aload_n h (pc := 61) dX4_serves_61 0 rfl ?_
  refine g_iload_n h (pc := 62) dX4_serves_62 1 rfl ?_
  refine g_iload_n h (pc := 63) dX4_serves_63 2 rfl ?_
  refine g_iconst h (pc := 64) (v := 0) dX4_serves_64 (by decide) ?_
  refine g_eq (ws' := mwd cI a v Z (inc (inc d 12 c) 13 c)) rfl ?_
  refine g_callV h (pc := 65) (As := [.int (nI s), .int (nI c), .int 0]) (st := []) dX4_serves_65 (m_back0 (gL C) (gD C) cI cO a v Z (inc (inc d 12 c) 13 c) hRM ns nk hz (by omega) s c hs hc) hw gX4_serves_X4_goesBack rfl (q0 := 0) rfl rfl (show nPar yX4_goesBack RX4 3 = true by decide +kernel) ⟨Nat.le_of_ble_eq_true rfl, Nat.le_of_ble_eq_true rfl⟩ rfl (Nat.le_of_ble_eq_true rfl) ⟨Nat.zero_le _, Nat.zero_le _⟩ (fun v2 hR2 => ?_)
  refine g_aload_n h (pc := 68) dX4_serves_68 0 rfl ?_
  refine g_iload_n h (pc := 69) dX4_serves_69 1 rfl ?_
  refine g_iload_n h (pc := 70) dX4_serves_70 2 rfl ?_
  refine g_aload_n h (pc := 71) dX4_serves_71 0 rfl ?_
  refine g_iload_n h (pc := 72) dX4_serves_72 1 rfl ?_
  refine g_iload_n h (pc := 73) dX4_serves_73 2 rfl ?_
  refine g_callR h (pc := 74) (As := [.int (nI s), .int (nI c)]) (st := [.int (nI c), .int (nI s), .ref (a 0)]) dX4_serves_74 (m_mender (gL C) (gD C) cI cO a v2 Z (backP Z (inc (inc d 12 c) 13 c) s c) hR2 ns nk hz s c hs hc) [0, 1, 2, 3, 4, 5, 6, 7, 8, 9, 10, 11, 12, 13, 14, 15, 16, 17, 18, 19, 20, 21, 22, 23, 24] rfl (by decide) gX4_serves_X4_menderOf rfl (q0 := 0) rfl rfl (show nPar yX4_menderOf RX4 2 = true by decide +kernel) ⟨Nat.le_of_ble_eq_true rfl, Nat.le_of_ble_eq_true rfl⟩ rfl (Nat.le_of_ble_eq_true rfl) ⟨Nat.zero_le _, Nat.zero_le _⟩ (fun r9 hr9 => ?_)
  subst hr9
  refine g_callV h (pc := 77) (As := [.int (nI s), .int (nI c), .int (nI (mOf Z c s))]) (st := []) dX4_serves_77 (m_ups (gL C) (gD C) cI cO a v2 Z (backP Z (inc (inc d 12 c) 13 c) s c) hR2 ns nk hz (by omega) B hB (gd_backP (d := (inc (inc d 12 c) 13 c)) hG s c) s c (mOf Z c s) hs hc (rch_mo hz hc 8 s hs)) hw gX4_serves_X4_asksUp rfl (q0 := 0) rfl rfl (show nPar yX4_asksUp RX4 3 = true by decide +kernel) ⟨Nat.le_of_ble_eq_true rfl, Nat.le_of_ble_eq_true rfl⟩ rfl (Nat.le_of_ble_eq_true rfl) ⟨Nat.zero_le _, Nat.zero_le _⟩ (fun v3 hR3 => ?_)
  refine g_aload_n h (pc := 80) dX4_serves_80 0 rfl ?_
  refine g_iconst h (pc := 81) (v := 1) dX4_serves_81 (by decide) ?_
  refine g_iload_n h (pc := 82) dX4_serves_82 1 rfl ?_
  refine g_iload h (pc := 83) dX4_serves_83 4 rfl ?_
  refine g_iconst h (pc := 85) (v := 0) dX4_serves_85 (by decide) ?_
  refine g_aload_n h (pc := 86) dX4_serves_86 0 rfl ?_
  refine g_get h (pc := 87) dX4_serves_87 iX4_serves_4 0 rfl rfl 9 (by decide) fX4_serves_35 rfl ?_
  refine g_bipush h (pc := 90) (v := 8) dX4_serves_90 (by decide) ?_
  refine g_iload_n h (pc := 92) dX4_serves_92 1 rfl ?_
  refine g_imul h (pc := 93) dX4_serves_93  ?_
  refine g_iload h (pc := 94) dX4_serves_94 4 rfl ?_
  refine g_iadd h (pc := 96) dX4_serves_96  ?_
  refine g_topi (nI_83 s q) ?_
  refine g_iald h (pc := 97) (v := Z 6 s q) dX4_serves_97 7 rfl (vp_in_nI (by omega) (by omega)) (by rw [nI_clamp (by omega)]; exact fl2_at _ (by omega)) ?_
  refine g_callV h (pc := 98) (As := [.int 1, .int (nI s), .int (nI q), .int 0, .int (Z 6 s q)]) (st := []) dX4_serves_98 (m_due (gL C) (gD C) cI cO a v3 Z (ups Z c (mOf Z c s) 8 s (backP Z (inc (inc d 12 c) 13 c) s c)) hR3 ns nk hz (by have h9 : (ups Z c (mOf Z c s) 8 s (backP Z (inc (inc d 12 c) 13 c) s c)).2.2.1.length ≤ sz (ups Z c (mOf Z c s) 8 s (backP Z (inc (inc d 12 c) 13 c) s c)) := Nat.le_add_left _ _; omega) 1 0 (Z 6 s q) s q) hw gX4_serves_X4_due rfl (q0 := 0) rfl rfl (show nPar yX4_due RX4 5 = true by decide +kernel) ⟨Nat.le_of_ble_eq_true rfl, Nat.le_of_ble_eq_true rfl⟩ rfl (Nat.le_of_ble_eq_true rfl) ⟨Nat.zero_le _, Nat.zero_le _⟩ (fun v4 hR4 => ?_)
  exact hret v4 dX4_serves_101 hR4 rfl (Nat.le_refl _) (Nat.le_refl _)

set_option maxHeartbeats 4000000 in
set_option maxRecDepth 100000 in
theorem m_asks2 (l : Launch) (D : va_G) (cI cO : ClassId) (a : Nat → Nat) (v : MX) (Z : Sg) (d : Dy) (hRM : RM d v) (ns nk : Nat) (hz : Zv ns nk Z)  (hsz : sz d ≤ 5900) (B : Nat) (hB : B < 1000000000) (hG : Gd B d) (s k q : Nat) (hs : s < ns) (hk : k < nk) (hq : q < nk) (hs2 : sz d ≤ 5700) : CIm l yX4_asks wsX4_asks 5 130 D cI cO a v Z d [.int (nI s), .int (nI k), .int 2, .int (nI q)] (if d.1 7 s k = 0 then 0 else 1) Z (arrC Z d s q k) := by
  unfold CIm
  refine CI.of (cc := cX4_asks) (maxL := 5) (rt := .boolean) (by decide) rfl (Nat.le_of_ble_eq_true rfl) ?_
  intro C hgL hgD hw h hret
  have hn8 := hz.n8
  have hk8 := hz.k8
  have hgz := hG.z hB (s := s) (k := k) (by omega) (by omega)
  refine g_aload_n h (pc := 0) dX4_asks_0 0 rfl ?_
  refine g_get h (pc := 1) dX4_asks_1 iX4_asks_4 0 rfl rfl 10 (by decide) fX4_asks_38 rfl ?_
  refine g_bipush h (pc := 4) (v := 8) dX4_asks_4 (by decide) ?_
  refine g_iload_n h (pc := 6) dX4_asks_6 1 rfl ?_
  refine g_imul h (pc := 7) dX4_asks_7  ?_
  refine g_iload_n h (pc := 8) dX4_asks_8 2 rfl ?_
  refine g_iadd h (pc := 9) dX4_asks_9  ?_
  refine g_topi (nI_83 s k) ?_
  refine g_iald h (pc := 10) (v := d.1 7 s k) dX4_asks_10 8 rfl (vp_in_nI (by omega) (by omega)) (by rw [nI_clamp (by omega)]; exact fl2_at _ (by omega)) ?_
  by_cases hg : d.1 7 s k = 0
  · have e1 : (arrC Z d s q k) = dA d (nI s, nI k, 2, Z 14 0 2, (nI q)) := if_pos hg
    rw [e1, if_pos hg] at hret
    refine g_if_le_t h (pc := 11) (tgt := 40) dX4_asks_11 (by decide) (hgz.mpr hg) ?_
    have hla : d.2.1.length ≤ sz d := Nat.le_add_right _ _
    refine g_aload_n h (pc := 40) dX4_asks_40 0 rfl ?_
    refine g_get h (pc := 41) dX4_asks_41 iX4_asks_4 0 rfl rfl 19 (by decide) fX4_asks_59 rfl ?_
    refine g_aload_n h (pc := 44) dX4_asks_44 0 rfl ?_
    refine g_get h (pc := 45) dX4_asks_45 iX4_asks_4 0 rfl rfl 18 (by decide) fX4_asks_110 rfl ?_
    refine g_iload_n h (pc := 48) dX4_asks_48 1 rfl ?_
    refine g_iast h hw (pc := 49) (ws' := mw cI a (vu v 0 d.2.1.length (nI s)) Z d.1 (nI d.2.1.length) (nI d.2.2.1.length)) dX4_asks_49 15 rfl (vp_in_nI (by have h9 : d.2.1.length ≤ sz d := Nat.le_add_right _ _; omega) (by omega)) (by rw [nI_clamp (by omega)]; rfl) ?_
    refine g_aload_n h (pc := 50) dX4_asks_50 0 rfl ?_
    refine g_get h (pc := 51) dX4_asks_51 iX4_asks_4 0 rfl rfl 20 (by decide) fX4_asks_62 rfl ?_
    refine g_aload_n h (pc := 54) dX4_asks_54 0 rfl ?_
    refine g_get h (pc := 55) dX4_asks_55 iX4_asks_4 0 rfl rfl 18 (by decide) fX4_asks_110 rfl ?_
    refine g_iload_n h (pc := 58) dX4_asks_58 2 rfl ?_
    refine g_iast h hw (pc := 59) (ws' := mw cI a (vu (vu v 0 d.2.1.length (nI s)) 1 d.2.1.length (nI k)) Z d.1 (nI d.2.1.length) (nI d.2.2.1.length)) dX4_asks_59 16 rfl (vp_in_nI (by have h9 : d.2.1.length ≤ sz d := Nat.le_add_right _ _; omega) (by omega)) (by rw [nI_clamp (by omega)]; rfl) ?_
    refine g_aload_n h (pc := 60) dX4_asks_60 0 rfl ?_
    refine g_get h (pc := 61) dX4_asks_61 iX4_asks_4 0 rfl rfl 21 (by decide) fX4_asks_65 rfl ?_
    refine g_aload_n h (pc := 64) dX4_asks_64 0 rfl ?_
    refine g_get h (pc := 65) dX4_asks_65 iX4_asks_4 0 rfl rfl 18 (by decide) fX4_asks_110 rfl ?_
    refine g_iload_n h (pc := 68) dX4_asks_68 3 rfl ?_
    refine g_iast h hw (pc := 69) (ws' := mw cI a (vu (vu (vu v 0 d.2.1.length (nI s)) 1 d.2.1.length (nI k)) 2 d.2.1.length 2) Z d.1 (nI d.2.1.length) (nI d.2.2.1.length)) dX4_asks_69 17 rfl (vp_in_nI (by have h9 : d.2.1.length ≤ sz d := Nat.le_add_right _ _; omega) (by omega)) (by rw [nI_clamp (by omega)]; rfl) ?_
    refine g_aload_n h (pc := 70) dX4_asks_70 0 rfl ?_
    refine g_get h (pc := 71) dX4_asks_71 iX4_asks_4 0 rfl rfl 22 (by decide) fX4_asks_68 rfl ?_
    refine g_aload_n h (pc := 74) dX4_asks_74 0 rfl ?_
    refine g_get h (pc := 75) dX4_asks_75 iX4_asks_4 0 rfl rfl 18 (by decide) fX4_asks_110 rfl ?_
    refine g_iload h (pc := 78) dX4_asks_78 4 rfl ?_
    refine g_iast h hw (pc := 80) (ws' := mw cI a (vu (vu (vu (vu v 0 d.2.1.length (nI s)) 1 d.2.1.length (nI k)) 2 d.2.1.length 2) 3 d.2.1.length (nI q)) Z d.1 (nI d.2.1.length) (nI d.2.2.1.length)) dX4_asks_80 18 rfl (vp_in_nI (by have h9 : d.2.1.length ≤ sz d := Nat.le_add_right _ _; omega) (by omega)) (by rw [nI_clamp (by omega)]; rfl) ?_
    refine g_aload_n h (pc := 81) dX4_asks_81 0 rfl ?_
    refine g_get h (pc := 82) dX4_asks_82 iX4_asks_4 0 rfl rfl 23 (by decide) fX4_asks_71 rfl ?_
    refine g_aload_n h (pc := 85) dX4_asks_85 0 rfl ?_
    refine g_get h (pc := 86) dX4_asks_86 iX4_asks_4 0 rfl rfl 18 (by decide) fX4_asks_110 rfl ?_
    refine g_aload_n h (pc := 89) dX4_asks_89 0 rfl ?_
    refine g_get h (pc := 90) dX4_asks_90 iX4_asks_4 0 rfl rfl 12 (by decide) fX4_asks_116 rfl ?_
    refine g_iast h hw (pc := 93) (ws' := mw cI a (vu (vu (vu (vu (vu v 0 d.2.1.length (nI s)) 1 d.2.1.length (nI k)) 2 d.2.1.length 2) 3 d.2.1.length (nI q)) 4 d.2.1.length (Z 14 0 2)) Z d.1 (nI d.2.1.length) (nI d.2.2.1.length)) dX4_asks_93 19 rfl (vp_in_nI (by have h9 : d.2.1.length ≤ sz d := Nat.le_add_right _ _; omega) (by omega)) (by rw [nI_clamp (by omega)]; rfl) ?_
    refine g_aload_n h (pc := 94) dX4_asks_94 0 rfl ?_
    refine g_dup h (pc := 95) dX4_asks_95 rfl ?_
    refine g_get h (pc := 96) dX4_asks_96 iX4_asks_4 0 rfl rfl 18 (by decide) fX4_asks_110 rfl ?_
    refine g_iconst h (pc := 99) (v := 1) dX4_asks_99 (by decide) ?_
    refine g_iadd h (pc := 100) dX4_asks_100  ?_
    refine g_topi (y := nI (dA d (nI s, nI k, 2, Z 14 0 2, (nI q))).2.1.length) (by rw [nI_1]; unfold dA; rw [List.length_append]; rfl) ?_
    refine g_put h hw (pc := 101) (ws' := mw cI a (vu (vu (vu (vu (vu v 0 d.2.1.length (nI s)) 1 d.2.1.length (nI k)) 2 d.2.1.length 2) 3 d.2.1.length (nI q)) 4 d.2.1.length (Z 14 0 2)) Z d.1 (nI (dA d (nI s, nI k, 2, Z 14 0 2, (nI q))).2.1.length) (nI d.2.2.1.length)) (ty := .int) dX4_asks_101 iX4_asks_4 tyX4 tyX4_ok nmX4 0 rfl rfl 18 (by decide) fX4_asks_110 rfl (by decide +kernel) rfl rfl (Nat.le_of_ble_eq_true rfl) rfl ?_
    refine g_iconst h (pc := 104) (v := 0) dX4_asks_104 (by decide) ?_
    exact hret _ (vp5 v 0 d.2.1.length (nI s) (nI k) 2 (nI q) (Z 14 0 2)) dX4_asks_105 (by decide) ⟨rfl, hRM.pushA (nI s) (nI k) 2 (Z 14 0 2) (nI q)⟩ rfl (Nat.le_refl _) (Nat.le_refl _)
  · have e1 : (arrC Z d s q k) = (serveM Z (dG d 7 s k (d.1 7 s k - 1)) s k q) := if_neg hg
    rw [e1, if_neg hg] at hret
    have ez : sz (dG d 7 s k (d.1 7 s k - 1)) = sz d := rfl
    refine g_if_le_f h (pc := 11) (tgt := 40) dX4_asks_11 (by decide) (fun q => hg (hgz.mp q)) ?_
    refine g_aload_n h (pc := 14) dX4_asks_14 0 rfl ?_
    refine g_get h (pc := 15) dX4_asks_15 iX4_asks_4 0 rfl rfl 10 (by decide) fX4_asks_38 rfl ?_
    refine g_bipush h (pc := 18) (v := 8) dX4_asks_18 (by decide) ?_
    refine g_iload_n h (pc := 20) dX4_asks_20 1 rfl ?_
    refine g_imul h (pc := 21) dX4_asks_21  ?_
    refine g_iload_n h (pc := 22) dX4_asks_22 2 rfl ?_
    refine g_iadd h (pc := 23) dX4_asks_23  ?_
    refine g_topi (nI_83 s k) ?_
    refine g_dup2 h (pc := 24) dX4_asks_24 rfl rfl ?_
    refine g_iald h (pc := 25) (v := d.1 7 s k) dX4_asks_25 8 rfl (vp_in_nI (by omega) (by omega)) (by rw [nI_clamp (by omega)]; exact fl2_at _ (by omega)) ?_
    refine g_iconst h (pc := 26) (v := 1) dX4_asks_26 (by decide) ?_
    refine g_isub h (pc := 27) dX4_asks_27  ?_
    refine g_iast h hw (pc := 28) (ws' := mw cI a v Z (su d.1 7 s k (d.1 7 s k - 1)) (nI d.2.1.length) (nI d.2.2.1.length)) dX4_asks_28 8 rfl (vp_in_nI (by omega) (by omega)) (by rw [nI_clamp (by omega)]; exact mw_gs cI a v Z d.1 (nI d.2.1.length) (nI d.2.2.1.length) s (by omega) _) ?_
    refine g_aload_n h (pc := 29) dX4_asks_29 0 rfl ?_
    refine g_iload_n h (pc := 30) dX4_asks_30 1 rfl ?_
    refine g_iload_n h (pc := 31) dX4_asks_31 2 rfl ?_
    refine g_iload_n h (pc := 32) dX4_asks_32 3 rfl ?_
    refine g_iload h (pc := 33) dX4_asks_33 4 rfl ?_
    refine g_eq (ws' := mwd cI a v Z (dG d 7 s k (d.1 7 s k - 1))) rfl ?_
    refine g_callV h (pc := 35) (As := [.int (nI s), .int (nI k), .int 2, .int (nI q)]) (st := []) dX4_asks_35 (m_serve2 (gL C) (gD C) cI cO a v Z (dG d 7 s k (d.1 7 s k - 1)) hRM ns nk hz (by omega) B hB (hG.dec (by omega) (by omega) hg) s k q hs hk hq) hw gX4_asks_X4_serves rfl (q0 := 0) rfl rfl (show nPar yX4_serves RX4 4 = true by decide +kernel) ⟨Nat.le_of_ble_eq_true rfl, Nat.le_of_ble_eq_true rfl⟩ rfl (Nat.le_of_ble_eq_true rfl) ⟨Nat.zero_le _, Nat.zero_le _⟩ (fun v2 hR2 => ?_)
    refine g_iconst h (pc := 38) (v := 1) dX4_asks_38 (by decide) ?_
    exact hret _ v2 dX4_asks_39 (by decide) ⟨rfl, hR2⟩ rfl (Nat.le_refl _) (Nat.le_refl _)

theorem fX4_arrives_20 : Cond.fieldLink RX4 20 "SpareShelvesModel" "core" "[I" ∈ wsX4_arrives := by decide +kernel
set_option maxHeartbeats 4000000 in
set_option maxRecDepth 100000 in
theorem m_arrC (l : Launch) (D : va_G) (cI cO : ClassId) (a : Nat → Nat) (v : MX) (Z : Sg) (d : Dy) (hRM : RM d v) (ns nk : Nat) (hz : Zv ns nk Z)  (hsz : sz d ≤ 5700) (B : Nat) (hB : B < 1000000000) (hG : Gd B d) (s k c : Nat) (hs : s < ns) (hk : k < nk) (hc : c < nk) (ec : Z 2 0 k = nI c) (hm : ¬ Z 6 s k = 0) : CVm l yX4_arrives wsX4_arrives 6 156 D cI cO a v Z d [.int (nI s), .int (nI k), .int 1] Z (arrC Z d s k c) := by
  unfold CVm
  refine CV.of (cc := cX4_arrives) (maxL := 5) (by decide) rfl (Nat.le_of_ble_eq_true rfl) ?_
  intro C hgL hgD hw h hret
  have hn8 := hz.n8
  have hk8 := hz.k8
  refine g_aload_n h (pc := 0) dX4_arrives_0 0 rfl ?_
  refine g_get h (pc := 1) dX4_arrives_1 iX4_arrives_4 0 rfl rfl 9 (by decide) fX4_arrives_35 rfl ?_
  refine g_bipush h (pc := 4) (v := 8) dX4_arrives_4 (by decide) ?_
  refine g_iload_n h (pc := 6) dX4_arrives_6 1 rfl ?_
  refine g_imul h (pc := 7) dX4_arrives_7  ?_
  refine g_iload_n h (pc := 8) dX4_arrives_8 2 rfl ?_
  refine g_iadd h (pc := 9) dX4_arrives_9  ?_
  refine g_topi (nI_83 s k) ?_
  refine g_iald h (pc := 10) (v := Z 6 s k) dX4_arrives_10 7 rfl (vp_in_nI (by omega) (by omega)) (by rw [nI_clamp (by omega)]; exact fl2_at _ (by omega)) ?_
  refine g_if_ne_t h (pc := 11) (tgt := 24) dX4_arrives_11 (by decide) hm ?_
  refine g_iload_n h (pc := 24) dX4_arrives_24 3 rfl ?_
  refine g_if_ne_t h (pc := 25) (tgt := 50) dX4_arrives_25 (by decide) (by decide) ?_
  refine g_aload_n h (pc := 50) dX4_arrives_50 0 rfl ?_
  refine g_iload_n h (pc := 51) dX4_arrives_51 1 rfl ?_
  refine g_aload_n h (pc := 52) dX4_arrives_52 0 rfl ?_
  refine g_get h (pc := 53) dX4_arrives_53 iX4_arrives_4 0 rfl rfl 4 (by decide) fX4_arrives_20 rfl ?_
  refine g_iload_n h (pc := 56) dX4_arrives_56 2 rfl ?_
  refine g_iald h (pc := 57) (v := nI c) dX4_arrives_57 3 rfl (vp_in_nI (by omega) (by omega)) (by rw [nI_clamp (by omega)]; exact ec) ?_
  refine g_iconst h (pc := 58) (v := 2) dX4_arrives_58 (by decide) ?_
  refine g_iload_n h (pc := 59) dX4_arrives_59 2 rfl ?_
  refine g_callI h (pc := 60) (As := [.int (nI s), .int (nI c), .int 2, .int (nI k)]) (st := []) dX4_arrives_60 (m_asks2 (gL C) (gD C) cI cO a v Z d hRM ns nk hz (by omega) B hB hG s c k hs hc hk hsz) hw gX4_arrives_X4_asks rfl (q0 := 0) rfl rfl (show nPar yX4_asks RX4 4 = true by decide +kernel) ⟨Nat.le_of_ble_eq_true rfl, Nat.le_of_ble_eq_true rfl⟩ rfl (Nat.le_of_ble_eq_true rfl) ⟨Nat.zero_le _, Nat.zero_le _⟩ (fun r v2 hR2 => ?_)
  obtain ⟨rfl, hR2⟩ := hR2
  refine g_istore h (pc := 63) dX4_arrives_63 (by decide) rfl ?_
  exact hret v2 dX4_arrives_65 hR2 rfl (Nat.le_refl _) (Nat.le_refl _)

set_option maxHeartbeats 4000000 in
set_option maxRecDepth 100000 in
theorem m_back1 (l : Launch) (D : va_G) (cI cO : ClassId) (a : Nat → Nat) (v : MX) (Z : Sg) (d : Dy) (hRM : RM d v) (ns nk : Nat) (hz : Zv ns nk Z)  (hsz : sz d ≤ 5800) (hs2 : sz d ≤ 5700) (B : Nat) (hB : B < 1000000000) (hG : Gd B d) (s k c : Nat) (hs : s < ns) (hk : k < nk) (hc : c < nk) (ec : Z 2 0 k = nI c) : CVm l yX4_goesBack wsX4_goesBack 7 182 D cI cO a v Z d [.int (nI s), .int (nI k), .int 1] Z (back Z d s k 1) := by
  unfold CVm
  refine CV.of (cc := cX4_goesBack) (maxL := 7) (by decide) rfl (Nat.le_of_ble_eq_true rfl) ?_
  intro C hgL hgD hw h hret
  have hn8 := hz.n8
  have hk8 := hz.k8
  refine g_aload_n h (pc := 0) dX4_goesBack_0 0 rfl ?_
  refine g_iload_n h (pc := 1) dX4_goesBack_1 1 rfl ?_
  refine g_iload_n h (pc := 2) dX4_goesBack_2 2 rfl ?_
  refine g_callR h (pc := 3) (As := [.int (nI s), .int (nI k)]) (st := []) dX4_goesBack_3 (m_mender (gL C) (gD C) cI cO a v Z d hRM ns nk hz s k hs hk) [0, 1, 2, 3, 4, 5, 6, 7, 8, 9, 10, 11, 12, 13, 14, 15, 16, 17, 18, 19, 20, 21, 22, 23, 24] rfl (by decide) gX4_goesBack_X4_menderOf rfl (q0 := 0) rfl rfl (show nPar yX4_menderOf RX4 2 = true by decide +kernel) ⟨Nat.le_of_ble_eq_true rfl, Nat.le_of_ble_eq_true rfl⟩ rfl (Nat.le_of_ble_eq_true rfl) ⟨Nat.zero_le _, Nat.zero_le _⟩ (fun r hr => ?_)
  subst hr
  refine g_istore h (pc := 6) dX4_goesBack_6 (by decide) rfl ?_
  refine g_iconst h (pc := 8) (v := 0) dX4_goesBack_8 (by decide) ?_
  refine g_istore h (pc := 9) dX4_goesBack_9 (by decide) rfl ?_
  refine g_iload_n h (pc := 11) dX4_goesBack_11 1 rfl ?_
  refine g_istore h (pc := 12) dX4_goesBack_12 (by decide) rfl ?_
  have hmle := mOf_le hz hk hs
  obtain ⟨e, he⟩ : ∃ e, e = mOf Z k s := ⟨_, rfl⟩
  have hrch : rch Z e 8 s := by rw [he]; exact rch_mo hz hk 8 s hs
  rw [← he] at hmle ⊢
  suffices loop : ∀ (n x : Nat) (acc : Int32), x < ns → rch Z e n x → wy Z e n x acc = wy Z e 8 s 0 → GG C 7 (mwd cI a v Z d) 0 0 14 [(0, .ref (a 0)), (1, .int (nI s)), (2, .int (nI k)), (3, .int 1), (4, .int (nI e)), (5, .int acc), (6, .int (nI x))] [] from loop 8 s 0 hs hrch rfl
  have tl : GG C 7 (mwd cI a v Z d) 0 0 45 [(0, .ref (a 0)), (1, .int (nI s)), (2, .int (nI k)), (3, .int 1), (4, .int (nI e)), (5, .int (wy Z e 8 s 0)), (6, .int (nI e))] [] := by
    refine g_iload h (pc := 45) dX4_goesBack_45 4 rfl ?_
    refine g_iload_n h (pc := 47) dX4_goesBack_47 1 rfl ?_
    by_cases hse : e = s
    · have hm : ¬ Z 6 s k = 0 := by have h9 := mOf_nz hz hk hs; rw [← he, hse] at h9; exact h9
      have e1 : (back Z d s k 1) = (arrC Z d s k c) := by unfold back; rw [if_pos (by rw [← he]; exact hse), if_neg (by decide), ec, nI_clamp (by omega)]
      rw [e1] at hret
      refine g_icmp_ne_f h (pc := 48) (tgt := 61) dX4_goesBack_48 (by decide) (by rw [hse]) ?_
      refine g_aload_n h (pc := 51) dX4_goesBack_51 0 rfl ?_
      refine g_iload_n h (pc := 52) dX4_goesBack_52 1 rfl ?_
      refine g_iload_n h (pc := 53) dX4_goesBack_53 2 rfl ?_
      refine g_iload_n h (pc := 54) dX4_goesBack_54 3 rfl ?_
      refine g_callV h (pc := 55) (As := [.int (nI s), .int (nI k), .int 1]) (st := []) dX4_goesBack_55 (m_arrC (gL C) (gD C) cI cO a v Z d hRM ns nk hz hs2 B hB hG s k c hs hk hc ec hm) hw gX4_goesBack_X4_arrives rfl (q0 := 0) rfl rfl (show nPar yX4_arrives RX4 3 = true by decide +kernel) ⟨Nat.le_of_ble_eq_true rfl, Nat.le_of_ble_eq_true rfl⟩ rfl (Nat.le_of_ble_eq_true rfl) ⟨Nat.zero_le _, Nat.zero_le _⟩ (fun v2 hR2 => ?_)
      refine g_goto h (pc := 58) (tgt := 72) dX4_goesBack_58 (by decide) ?_
      exact hret v2 dX4_goesBack_72 hR2 rfl (Nat.le_refl _) (Nat.le_refl _)
    · have e1 : (back Z d s k 1) = sets Z d s k e 1 := (if_neg (by rw [← he]; exact hse)).trans (by rw [he])
      rw [e1] at hret
      refine g_icmp_ne_t h (pc := 48) (tgt := 61) dX4_goesBack_48 (by decide) (fun q => hse ((nI_eq (by omega) (by omega)).mp q)) ?_
      refine g_aload_n h (pc := 61) dX4_goesBack_61 0 rfl ?_
      refine g_iconst h (pc := 62) (v := 3) dX4_goesBack_62 (by decide) ?_
      refine g_iload h (pc := 63) dX4_goesBack_63 4 rfl ?_
      refine g_iload_n h (pc := 65) dX4_goesBack_65 2 rfl ?_
      refine g_iload_n h (pc := 66) dX4_goesBack_66 3 rfl ?_
      refine g_iload h (pc := 67) dX4_goesBack_67 5 rfl ?_
      refine g_callV h (pc := 69) (As := [.int 3, .int (nI e), .int (nI k), .int 1, .int (wy Z e 8 s 0)]) (st := []) dX4_goesBack_69 (m_due (gL C) (gD C) cI cO a v Z d hRM ns nk hz (by have h9 : d.2.2.1.length ≤ sz d := Nat.le_add_left _ _; omega) 3 1 (wy Z e 8 s 0) e k) hw gX4_goesBack_X4_due rfl (q0 := 0) rfl rfl (show nPar yX4_due RX4 5 = true by decide +kernel) ⟨Nat.le_of_ble_eq_true rfl, Nat.le_of_ble_eq_true rfl⟩ rfl (Nat.le_of_ble_eq_true rfl) ⟨Nat.zero_le _, Nat.zero_le _⟩ (fun v2 hR2 => ?_)
      exact hret v2 dX4_goesBack_72 hR2 rfl (Nat.le_refl _) (Nat.le_refl _)
  intro n
  induction n with
  | zero =>
    intro x acc h2 h3 hm
    rw [rch] at h3
    subst h3
    rw [wy] at hm
    refine g_iload h (pc := 14) dX4_goesBack_14 6 rfl ?_
    refine g_iload h (pc := 16) dX4_goesBack_16 4 rfl ?_
    refine g_icmp_eq_t h (pc := 18) (tgt := 45) dX4_goesBack_18 (by decide) rfl ?_
    rw [hm]
    exact tl
  | succ n ih =>
    intro x acc h2 h3 hm
    have hle := rch_le hz (n + 1) x h2 h3
    refine g_iload h (pc := 14) dX4_goesBack_14 6 rfl ?_
    refine g_iload h (pc := 16) dX4_goesBack_16 4 rfl ?_
    by_cases hx : x = e
    · subst hx
      rw [wy, if_pos rfl] at hm
      refine g_icmp_eq_t h (pc := 18) (tgt := 45) dX4_goesBack_18 (by decide) rfl ?_
      rw [hm]
      exact tl
    · refine g_icmp_eq_f h (pc := 18) (tgt := 45) dX4_goesBack_18 (by decide) (fun q => hx ((nI_eq (by omega) (by omega)).mp q)) ?_
      rw [rch] at h3
      obtain ⟨h0, h3⟩ := h3.resolve_left hx
      have h4 := hz.lt h0 h2
      rw [wy, if_neg hx] at hm
      refine g_iload h (pc := 21) dX4_goesBack_21 5 rfl ?_
      refine g_aload_n h (pc := 23) dX4_goesBack_23 0 rfl ?_
      refine g_get h (pc := 24) dX4_goesBack_24 iX4_goesBack_4 0 rfl rfl 7 (by decide) fX4_goesBack_29 rfl ?_
      refine g_iload h (pc := 27) dX4_goesBack_27 6 rfl ?_
      refine g_iald h (pc := 29) (v := Z 4 0 x) dX4_goesBack_29 5 rfl (vp_in_nI (by omega) (by omega)) (by rw [nI_clamp (by omega)]) ?_
      refine g_iadd h (pc := 30) dX4_goesBack_30  ?_
      refine g_istore h (pc := 31) dX4_goesBack_31 (by decide) rfl ?_
      refine g_aload_n h (pc := 33) dX4_goesBack_33 0 rfl ?_
      refine g_get h (pc := 34) dX4_goesBack_34 iX4_goesBack_4 0 rfl rfl 6 (by decide) fX4_goesBack_26 rfl ?_
      refine g_iload h (pc := 37) dX4_goesBack_37 6 rfl ?_
      refine g_iald h (pc := 39) (v := nI (upx Z x)) dX4_goesBack_39 4 rfl (vp_in_nI (by omega) (by omega)) (by rw [nI_clamp (by omega)]; exact hz.up h0 h2) ?_
      refine g_istore h (pc := 40) dX4_goesBack_40 (by decide) rfl ?_
      refine g_goto h (pc := 42) (tgt := 14) dX4_goesBack_42 (by decide) ?_
      exact ih (upx Z x) _ (by omega) h3 hm

set_option maxHeartbeats 4000000 in
set_option maxRecDepth 100000 in
theorem m_arr0 (l : Launch) (D : va_G) (cI cO : ClassId) (a : Nat → Nat) (v : MX) (Z : Sg) (d : Dy) (hRM : RM d v) (ns nk : Nat) (hz : Zv ns nk Z)  (hsz : sz d ≤ 5700) (s k : Nat) (hs : s < ns) (hk : k < nk) : CVm l yX4_arrives wsX4_arrives 3 80 D cI cO a v Z d [.int (nI s), .int (nI k), .int 0] Z (back Z d s k 0) := by
  unfold CVm
  refine CV.of (cc := cX4_arrives) (maxL := 5) (by decide) rfl (Nat.le_of_ble_eq_true rfl) ?_
  intro C hgL hgD hw h hret
  have hn8 := hz.n8
  have hk8 := hz.k8
  refine g_aload_n h (pc := 0) dX4_arrives_0 0 rfl ?_
  refine g_get h (pc := 1) dX4_arrives_1 iX4_arrives_4 0 rfl rfl 9 (by decide) fX4_arrives_35 rfl ?_
  refine g_bipush h (pc := 4) (v := 8) dX4_arrives_4 (by decide) ?_
  refine g_iload_n h (pc := 6) dX4_arrives_6 1 rfl ?_
  refine g_imul h (pc := 7) dX4_arrives_7  ?_
  refine g_iload_n h (pc := 8) dX4_arrives_8 2 rfl ?_
  refine g_iadd h (pc := 9) dX4_arrives_9  ?_
  refine g_topi (nI_83 s k) ?_
  refine g_iald h (pc := 10) (v := Z 6 s k) dX4_arrives_10 7 rfl (vp_in_nI (by omega) (by omega)) (by rw [nI_clamp (by omega)]; exact fl2_at _ (by omega)) ?_
  by_cases hm : Z 6 s k = 0
  · refine g_if_ne_f h (pc := 11) (tgt := 24) dX4_arrives_11 (by decide) hm ?_
    refine g_aload_n h (pc := 14) dX4_arrives_14 0 rfl ?_
    refine g_iload_n h (pc := 15) dX4_arrives_15 1 rfl ?_
    refine g_iload_n h (pc := 16) dX4_arrives_16 2 rfl ?_
    refine g_iload_n h (pc := 17) dX4_arrives_17 3 rfl ?_
    refine g_callV h (pc := 18) (As := [.int (nI s), .int (nI k), .int 0]) (st := []) dX4_arrives_18 (m_back0 (gL C) (gD C) cI cO a v Z d hRM ns nk hz (by omega) s k hs hk) hw gX4_arrives_X4_goesBack rfl (q0 := 0) rfl rfl (show nPar yX4_goesBack RX4 3 = true by decide +kernel) ⟨Nat.le_of_ble_eq_true rfl, Nat.le_of_ble_eq_true rfl⟩ rfl (Nat.le_of_ble_eq_true rfl) ⟨Nat.zero_le _, Nat.zero_le _⟩ (fun v2 hR2 => ?_)
    rw [back_0] at hret
    refine g_goto h (pc := 21) (tgt := 65) dX4_arrives_21 (by decide) ?_
    exact hret v2 dX4_arrives_65 hR2 rfl (Nat.le_refl _) (Nat.le_refl _)
  · refine g_if_ne_t h (pc := 11) (tgt := 24) dX4_arrives_11 (by decide) hm ?_
    refine g_iload_n h (pc := 24) dX4_arrives_24 3 rfl ?_
    have e1 : back Z d s k 0 = begins Z d s k := by unfold back; rw [if_pos (mOf_self hm), if_pos rfl]
    rw [e1] at hret
    refine g_if_ne_f h (pc := 25) (tgt := 50) dX4_arrives_25 (by decide) rfl ?_
    refine g_aload_n h (pc := 28) dX4_arrives_28 0 rfl ?_
    refine g_iconst h (pc := 29) (v := 1) dX4_arrives_29 (by decide) ?_
    refine g_iload_n h (pc := 30) dX4_arrives_30 1 rfl ?_
    refine g_iload_n h (pc := 31) dX4_arrives_31 2 rfl ?_
    refine g_iconst h (pc := 32) (v := 0) dX4_arrives_32 (by decide) ?_
    refine g_aload_n h (pc := 33) dX4_arrives_33 0 rfl ?_
    refine g_get h (pc := 34) dX4_arrives_34 iX4_arrives_4 0 rfl rfl 9 (by decide) fX4_arrives_35 rfl ?_
    refine g_bipush h (pc := 37) (v := 8) dX4_arrives_37 (by decide) ?_
    refine g_iload_n h (pc := 39) dX4_arrives_39 1 rfl ?_
    refine g_imul h (pc := 40) dX4_arrives_40  ?_
    refine g_iload_n h (pc := 41) dX4_arrives_41 2 rfl ?_
    refine g_iadd h (pc := 42) dX4_arrives_42  ?_
    refine g_topi (nI_83 s k) ?_
    refine g_iald h (pc := 43) (v := Z 6 s k) dX4_arrives_43 7 rfl (vp_in_nI (by omega) (by omega)) (by rw [nI_clamp (by omega)]; exact fl2_at _ (by omega)) ?_
    refine g_callV h (pc := 44) (As := [.int 1, .int (nI s), .int (nI k), .int 0, .int (Z 6 s k)]) (st := []) dX4_arrives_44 (m_due (gL C) (gD C) cI cO a v Z d hRM ns nk hz (by have h9 : d.2.2.1.length ≤ sz d := Nat.le_add_left _ _; omega) 1 0 (Z 6 s k) s k) hw gX4_arrives_X4_due rfl (q0 := 0) rfl rfl (show nPar yX4_due RX4 5 = true by decide +kernel) ⟨Nat.le_of_ble_eq_true rfl, Nat.le_of_ble_eq_true rfl⟩ rfl (Nat.le_of_ble_eq_true rfl) ⟨Nat.zero_le _, Nat.zero_le _⟩ (fun v2 hR2 => ?_)
    refine g_goto h (pc := 47) (tgt := 65) dX4_arrives_47 (by decide) ?_
    exact hret v2 dX4_arrives_65 hR2 rfl (Nat.le_refl _) (Nat.le_refl _)

set_option maxHeartbeats 4000000 in
set_option maxRecDepth 100000 in
theorem m_arr1 (l : Launch) (D : va_G) (cI cO : ClassId) (a : Nat → Nat) (v : MX) (Z : Sg) (d : Dy) (hRM : RM d v) (ns nk : Nat) (hz : Zv ns nk Z)  (hsz : sz d ≤ 5700) (B : Nat) (hB : B < 1000000000) (hG : Gd B d) (s k c : Nat) (hs : s < ns) (hk : k < nk) (hc : c < nk) (ec : Z 2 0 k = nI c) : CVm l yX4_arrives wsX4_arrives 8 210 D cI cO a v Z d [.int (nI s), .int (nI k), .int 1] Z (back Z d s k 1) := by
  unfold CVm
  refine CV.of (cc := cX4_arrives) (maxL := 5) (by decide) rfl (Nat.le_of_ble_eq_true rfl) ?_
  intro C hgL hgD hw h hret
  have hn8 := hz.n8
  have hk8 := hz.k8
  refine g_aload_n h (pc := 0) dX4_arrives_0 0 rfl ?_
  refine g_get h (pc := 1) dX4_arrives_1 iX4_arrives_4 0 rfl rfl 9 (by decide) fX4_arrives_35 rfl ?_
  refine g_bipush h (pc := 4) (v := 8) dX4_arrives_4 (by decide) ?_
  refine g_iload_n h (pc := 6) dX4_arrives_6 1 rfl ?_
  refine g_imul h (pc := 7) dX4_arrives_7  ?_
  refine g_iload_n h (pc := 8) dX4_arrives_8 2 rfl ?_
  refine g_iadd h (pc := 9) dX4_arrives_9  ?_
  refine g_topi (nI_83 s k) ?_
  refine g_iald h (pc := 10) (v := Z 6 s k) dX4_arrives_10 7 rfl (vp_in_nI (by omega) (by omega)) (by rw [nI_clamp (by omega)]; exact fl2_at _ (by omega)) ?_
  by_cases hm : Z 6 s k = 0
  · refine g_if_ne_f h (pc := 11) (tgt := 24) dX4_arrives_11 (by decide) hm ?_
    refine g_aload_n h (pc := 14) dX4_arrives_14 0 rfl ?_
    refine g_iload_n h (pc := 15) dX4_arrives_15 1 rfl ?_
    refine g_iload_n h (pc := 16) dX4_arrives_16 2 rfl ?_
    refine g_iload_n h (pc := 17) dX4_arrives_17 3 rfl ?_
    refine g_callV h (pc := 18) (As := [.int (nI s), .int (nI k), .int 1]) (st := []) dX4_arrives_18 (m_back1 (gL C) (gD C) cI cO a v Z d hRM ns nk hz (by omega) hsz B hB hG s k c hs hk hc ec) hw gX4_arrives_X4_goesBack rfl (q0 := 0) rfl rfl (show nPar yX4_goesBack RX4 3 = true by decide +kernel) ⟨Nat.le_of_ble_eq_true rfl, Nat.le_of_ble_eq_true rfl⟩ rfl (Nat.le_of_ble_eq_true rfl) ⟨Nat.zero_le _, Nat.zero_le _⟩ (fun v2 hR2 => ?_)
    refine g_goto h (pc := 21) (tgt := 65) dX4_arrives_21 (by decide) ?_
    exact hret v2 dX4_arrives_65 hR2 rfl (Nat.le_refl _) (Nat.le_refl _)
  · refine g_if_ne_t h (pc := 11) (tgt := 24) dX4_arrives_11 (by decide) hm ?_
    refine g_iload_n h (pc := 24) dX4_arrives_24 3 rfl ?_
    have e1 : back Z d s k 1 = arrC Z d s k c := by unfold back; rw [if_pos (mOf_self hm), if_neg (by decide), ec, nI_clamp (by omega)]
    rw [e1] at hret
    refine g_if_ne_t h (pc := 25) (tgt := 50) dX4_arrives_25 (by decide) (by decide) ?_
    refine g_aload_n h (pc := 50) dX4_arrives_50 0 rfl ?_
    refine g_iload_n h (pc := 51) dX4_arrives_51 1 rfl ?_
    refine g_aload_n h (pc := 52) dX4_arrives_52 0 rfl ?_
    refine g_get h (pc := 53) dX4_arrives_53 iX4_arrives_4 0 rfl rfl 4 (by decide) fX4_arrives_20 rfl ?_
    refine g_iload_n h (pc := 56) dX4_arrives_56 2 rfl ?_
    refine g_iald h (pc := 57) (v := nI c) dX4_arrives_57 3 rfl (vp_in_nI (by omega) (by omega)) (by rw [nI_clamp (by omega)]; exact ec) ?_
    refine g_iconst h (pc := 58) (v := 2) dX4_arrives_58 (by decide) ?_
    refine g_iload_n h (pc := 59) dX4_arrives_59 2 rfl ?_
    refine g_callI h (pc := 60) (As := [.int (nI s), .int (nI c), .int 2, .int (nI k)]) (st := []) dX4_arrives_60 (m_asks2 (gL C) (gD C) cI cO a v Z d hRM ns nk hz (by omega) B hB hG s c k hs hc hk hsz) hw gX4_arrives_X4_asks rfl (q0 := 0) rfl rfl (show nPar yX4_asks RX4 4 = true by decide +kernel) ⟨Nat.le_of_ble_eq_true rfl, Nat.le_of_ble_eq_true rfl⟩ rfl (Nat.le_of_ble_eq_true rfl) ⟨Nat.zero_le _, Nat.zero_le _⟩ (fun r v2 hR2 => ?_)
    obtain ⟨rfl, hR2⟩ := hR2
    refine g_istore h (pc := 63) dX4_arrives_63 (by decide) rfl ?_
    exact hret v2 dX4_arrives_65 hR2 rfl (Nat.le_refl _) (Nat.le_refl _)
