theorem fnd_0 (p : E5 → Bool) : ∀ (L : List E5) (i : Nat), fnd p L 0 i = if L.findIdx p < L.length then nI (i + L.findIdx p) else -1
  | [], i => by
    rw [fnd, if_neg (by simp)]
  | e :: r, i => by
    rw [fnd, List.findIdx_cons]
    cases hp : p e with
    | true =>
      rw [if_pos rfl, if_pos rfl, if_pos (by simp)]
      rfl
    | false =>
      show (if (false = true) then _ else fnd p r 0 (i + 1)) = if (r.findIdx p + 1 < r.length + 1) then nI (i + (r.findIdx p + 1)) else -1
      rw [if_neg (by simp), fnd_0 p r (i + 1)]
      by_cases h : r.findIdx p < r.length
      · rw [if_pos h, if_pos (by omega)]
        congr 1
        omega
      · rw [if_neg h, if_neg (by omega)]
theorem fit2 (s k : Nat) (hs : s < 2 ^ 31) (hk : k < 2 ^ 31) : fitB (nI s) (nI k) (-1) (-1) = fun e => decide (col 0 e = nI s ∧ col 1 e = nI k) := by
  funext e
  unfold fitB
  apply decide_eq_decide.mpr
  constructor
  · intro h
    exact ⟨h.1.resolve_left (nI_nm1 hs), h.2.1.resolve_left (nI_nm1 hk)⟩
  · intro h
    exact ⟨Or.inr h.1, Or.inr h.2, Or.inl rfl, Or.inl rfl⟩
theorem find2 (s k : Nat) (hs : s < 2 ^ 31) (hk : k < 2 ^ 31) (L : List E5) : fnd (fitB (nI s) (nI k) (-1) (-1)) L 0 0 = if fst2 s k L < L.length then nI (fst2 s k L) else -1 := by
  rw [fnd_0, fit2 s k hs hk]
  unfold fst2
  rw [Nat.zero_add]

theorem iX3_lands_3 : ∀ w ∈ wsX30, w ∈ wsX3_lands := by decide +kernel
theorem fX3_lands_41 : Cond.fieldLink RX3 41 "SpareShelves" "asks" "LSpareShelves$Line;" ∈ wsX3_lands := by decide +kernel
theorem fX3_lands_25 : Cond.fieldLink RX3 25 "SpareShelves" "good" "[[I" ∈ wsX3_lands := by decide +kernel
theorem fX3_lands_10 : Cond.fieldLink RX3 10 "SpareShelves" "kinds" "LSpareShelves$Kinds;" ∈ wsX3_lands := by decide +kernel
theorem iX3_lands_0 : ∀ w ∈ wsX00, w ∈ wsX3_lands := by decide +kernel
theorem fX3_lands_145 : Cond.fieldLink RX3 145 "SpareShelves$Kinds" "machinesTook" "[I" ∈ wsX3_lands := by decide +kernel
set_option maxHeartbeats 4000000 in
set_option maxRecDepth 100000 in
theorem c_lands (l : Launch) (D : va_G) (cI cO : ClassId) (a : Nat → Nat) (u : UX) (Z : Sg) (d : Dy) (hRC : RC d u) (ns nk : Nat) (hz : Zv ns nk Z) (hsz : sz d ≤ 24600) (hA : ∀ e ∈ d.2.1, okA ns nk Z e) (s k : Nat) (hs : s < ns) (hk : k < nk) : CVc l yX3_lands wsX3_lands 6 220 D cI cO a u Z d [.int (nI s), .int (nI k)] Z (lands Z d s k) := by
  unfold CVc
  refine CV.of (cc := cX3_lands) (maxL := 6) (by decide) rfl (Nat.le_of_ble_eq_true rfl) ?_
  intro C hgL hgD hw h hret
  have hn8 := hz.n8
  have hk8 := hz.k8
  have mf : cp d ≤ cp (lands Z d s k) := cpl_lands Z d s k
  have hl9 : d.2.1.length ≤ sz d := Nat.le_add_right _ _
  refine g_aload_n h (pc := 0) dX3_lands_0 0 rfl ?_
  refine g_get h (pc := 1) dX3_lands_1 iX3_lands_3 0 rfl rfl 6 (by decide) fX3_lands_41 rfl ?_
  refine g_iload_n h (pc := 4) dX3_lands_4 1 rfl ?_
  refine g_iload_n h (pc := 5) dX3_lands_5 2 rfl ?_
  refine g_iconst h (pc := 6) (v := (-1)) dX3_lands_6 (by decide) ?_
  refine g_iconst h (pc := 7) (v := 0) dX3_lands_7 (by decide) ?_
  refine g_callR h (pc := 8) (As := [.int (nI s), .int (nI k), .int (-1), .int 0]) (st := []) dX3_lands_8 (c_find (gL C) (gD C) cI cO (lb (a 42) u.1) d.2.2.2.1 u.2.2.2.1 d.2.1 hRC.1 (nI s) (nI k) (-1) 0) [42, 43] rfl (by decide) gX3_lands_X1_find rfl (q0 := 0) rfl rfl (show nPar yX1_find RX1 4 = true by decide +kernel) ⟨Nat.le_of_ble_eq_true rfl, Nat.le_of_ble_eq_true rfl⟩ rfl (Nat.le_of_ble_eq_true rfl) ⟨Nat.zero_le _, Nat.zero_le _⟩ (fun r hr => ?_)
  subst hr
  rw [find2 s k (by omega) (by omega)]
  cases hf : d.2.1[fst2 s k d.2.1]? with
  | none =>
    have e1 : lands Z d s k = dG d 7 s k (d.1 7 s k + 1) := by unfold lands; rw [hf]
    rw [e1] at hret
    rw [if_neg (Nat.not_lt.mpr (List.getElem?_eq_none_iff.mp hf))]
    refine g_istore_n h (pc := 11) dX3_lands_11 (by decide) rfl ?_
    refine g_iload_n h (pc := 12) dX3_lands_12 3 rfl ?_
    refine g_iconst h (pc := 13) (v := (-1)) dX3_lands_13 (by decide) ?_
    refine g_icmp_ne_f h (pc := 14) (tgt := 30) dX3_lands_14 (by decide) rfl ?_
    refine g_aload_n h (pc := 17) dX3_lands_17 0 rfl ?_
    refine g_get h (pc := 18) dX3_lands_18 iX3_lands_3 0 rfl rfl 2 (by decide) fX3_lands_25 rfl ?_
    refine g_iload_n h (pc := 21) dX3_lands_21 1 rfl ?_
    refine g_aald h (pc := 22) (v := a (23 + s)) dX3_lands_22 22 rfl (vp_in_nI (by omega) (by omega)) (by rw [nI_clamp (by omega)]) ?_
    refine g_iload_n h (pc := 23) dX3_lands_23 2 rfl ?_
    refine g_dup2 h (pc := 24) dX3_lands_24 rfl rfl ?_
    refine g_iald h (pc := 25) (v := d.1 7 s k) dX3_lands_25 (23 + s) (cw_g cI cO a u Z d (by omega)) (vp_in_nI (by omega) (by omega)) (by rw [nI_clamp (by omega)]) ?_
    refine g_iconst h (pc := 26) (v := 1) dX3_lands_26 (by decide) ?_
    refine g_iadd h (pc := 27) dX3_lands_27  ?_
    refine g_iast h hw (pc := 28) (ws' := cw cI cO a u Z (dG d 7 s k (d.1 7 s k + 1))) dX3_lands_28 (23 + s) (cw_g cI cO a u Z d (by omega)) (vp_in_nI (by omega) (by omega)) (by rw [nI_clamp (by omega)]; exact cw_gs cI cO a u Z d (by omega) k _) ?_
    exact hret u dX3_lands_29 hRC rfl (Nat.zero_le _) (Nat.zero_le _)
  | some e =>
    obtain ⟨i, hi⟩ : ∃ i, i = fst2 s k d.2.1 := ⟨_, rfl⟩
    rw [← hi] at hf ⊢
    have hlt : i < d.2.1.length := (List.getElem?_eq_some_iff.mp hf).1
    have e1 : lands Z d s k = serve Z (xA d i) s k e := by unfold lands; rw [← hi, hf]
    have hok := hA e (List.mem_of_getElem? hf)
    have h0 := (fst2_some (by rw [← hi]; exact hf)).1
    obtain ⟨s2, k2, a1, a2, a3, a4, a5⟩ := hok
    have es : s2 = s := (nI_eq (by omega) (by omega)).mp (a3.symm.trans h0)
    subst es
    have ec : cp (xA d i) = cp d := rfl
    have ez := sz_xA d i
    rw [if_pos hlt]
    refine g_istore_n h (pc := 11) dX3_lands_11 (by decide) rfl ?_
    refine g_iload_n h (pc := 12) dX3_lands_12 3 rfl ?_
    refine g_iconst h (pc := 13) (v := (-1)) dX3_lands_13 (by decide) ?_
    refine g_icmp_ne_t h (pc := 14) (tgt := 30) dX3_lands_14 (by decide) (nI_nm1 (by omega)) ?_
    refine g_aload_n h (pc := 30) dX3_lands_30 0 rfl ?_
    refine g_get h (pc := 31) dX3_lands_31 iX3_lands_3 0 rfl rfl 6 (by decide) fX3_lands_41 rfl ?_
    refine g_iload_n h (pc := 34) dX3_lands_34 3 rfl ?_
    refine g_iconst h (pc := 35) (v := 2) dX3_lands_35 (by decide) ?_
    refine g_callR h (pc := 36) (As := [.int (nI i), .int 2]) (st := []) dX3_lands_36 (c_read (gL C) (gD C) cI cO (lb (a 42) u.1) d.2.2.2.1 u.2.2.2.1 d.2.1 hRC.1 i e hf 2 (by decide) _ 2 rfl rfl) [42, 43] rfl (by decide) gX3_lands_X1_read rfl (q0 := 0) rfl rfl (show nPar yX1_read RX1 2 = true by decide +kernel) ⟨Nat.le_of_ble_eq_true rfl, Nat.le_of_ble_eq_true rfl⟩ rfl (Nat.le_of_ble_eq_true rfl) ⟨Nat.zero_le _, Nat.zero_le _⟩ (fun r1 hr1 => ?_)
    subst hr1
    refine g_istore h (pc := 39) dX3_lands_39 (by decide) rfl ?_
    refine g_aload_n h (pc := 41) dX3_lands_41 0 rfl ?_
    refine g_get h (pc := 42) dX3_lands_42 iX3_lands_3 0 rfl rfl 6 (by decide) fX3_lands_41 rfl ?_
    refine g_iload_n h (pc := 45) dX3_lands_45 3 rfl ?_
    refine g_iconst h (pc := 46) (v := 4) dX3_lands_46 (by decide) ?_
    refine g_callR h (pc := 47) (As := [.int (nI i), .int 4]) (st := []) dX3_lands_47 (c_read (gL C) (gD C) cI cO (lb (a 42) u.1) d.2.2.2.1 u.2.2.2.1 d.2.1 hRC.1 i e hf 4 (by decide) _ 4 rfl rfl) [42, 43] rfl (by decide) gX3_lands_X1_read rfl (q0 := 0) rfl rfl (show nPar yX1_read RX1 2 = true by decide +kernel) ⟨Nat.le_of_ble_eq_true rfl, Nat.le_of_ble_eq_true rfl⟩ rfl (Nat.le_of_ble_eq_true rfl) ⟨Nat.zero_le _, Nat.zero_le _⟩ (fun r2 hr2 => ?_)
    subst hr2
    refine g_istore h (pc := 50) dX3_lands_50 (by decide) rfl ?_
    refine g_aload_n h (pc := 52) dX3_lands_52 0 rfl ?_
    refine g_get h (pc := 53) dX3_lands_53 iX3_lands_3 0 rfl rfl 6 (by decide) fX3_lands_41 rfl ?_
    refine g_iload_n h (pc := 56) dX3_lands_56 3 rfl ?_
    refine g_adrop h hw (pc := 57) dX3_lands_57 hRC i hlt gX3_lands_X1_drop ⟨Nat.le_of_ble_eq_true rfl, Nat.le_of_ble_eq_true rfl⟩ (Nat.le_of_ble_eq_true rfl) ⟨Nat.zero_le _, Nat.zero_le _⟩ (fun u2 hR2 => ?_)
    refine g_iload h (pc := 60) dX3_lands_60 4 rfl ?_
    rcases a5 with ⟨b1, b2⟩ | ⟨b1, c, c1, c2, c3⟩ | ⟨b1, c, c1, c2, c3⟩
    · have e2 : lands Z d s2 k = inc (xA d i) 11 k := by rw [e1]; unfold serve; rw [if_pos b1]
      rw [e2] at hret
      refine g_if_ne_f h (pc := 62) (tgt := 81) dX3_lands_62 (by decide) b1 ?_
      refine g_aload_n h (pc := 65) dX3_lands_65 0 rfl ?_
      refine g_get h (pc := 66) dX3_lands_66 iX3_lands_3 0 rfl rfl 0 (by decide) fX3_lands_10 rfl ?_
      refine g_get h (pc := 69) dX3_lands_69 iX3_lands_0 1 rfl rfl 5 (by decide) fX3_lands_145 rfl ?_
      refine g_iload_n h (pc := 72) dX3_lands_72 2 rfl ?_
      refine g_dup2 h (pc := 73) dX3_lands_73 rfl rfl ?_
      refine g_iald h (pc := 74) (v := (xA d i).1 11 0 k) dX3_lands_74 7 rfl (vp_in_nI (by omega) (by omega)) (by rw [nI_clamp (by omega)]) ?_
      refine g_iconst h (pc := 75) (v := 1) dX3_lands_75 (by decide) ?_
      refine g_iadd h (pc := 76) dX3_lands_76  ?_
      refine g_iast h hw (pc := 77) (ws' := cw cI cO a u2 Z (inc (xA d i) 11 k)) dX3_lands_77 7 rfl (vp_in_nI (by omega) (by omega)) (by rw [nI_clamp (by omega)]; rfl) ?_
      refine g_goto h (pc := 78) (tgt := 105) dX3_lands_78 (by decide) ?_
      exact hret u2 dX3_lands_105 hR2 rfl (Nat.zero_le _) (Nat.zero_le _)
    · have e2 : lands Z d s2 k = down Z (xA d i) c k := by rw [e1]; unfold serve; rw [b1, if_neg (show ¬ (1 : Int32) = 0 by decide), if_pos (show (1 : Int32) = 1 from rfl), c3, nI_clamp (by omega)]
      have mg : cp (lands Z d s2 k) = cp (down Z (xA d i) c k) := by rw [e2]
      rw [e2] at hret
      rw [b1, c3]
      refine g_if_ne_t h (pc := 62) (tgt := 81) dX3_lands_62 (by decide) (by decide) ?_
      refine g_iload h (pc := 81) dX3_lands_81 4 rfl ?_
      refine g_iconst h (pc := 83) (v := 1) dX3_lands_83 (by decide) ?_
      refine g_icmp_ne_f h (pc := 84) (tgt := 97) dX3_lands_84 (by decide) rfl ?_
      refine g_aload_n h (pc := 87) dX3_lands_87 0 rfl ?_
      refine g_iload h (pc := 88) dX3_lands_88 5 rfl ?_
      refine g_iload_n h (pc := 90) dX3_lands_90 2 rfl ?_
      refine g_callV h (pc := 91) (As := [.int (nI c), .int (nI k)]) (st := []) dX3_lands_91 (c_down (gL C) (gD C) cI cO a u2 Z _ hR2 ns nk hz (by omega) c k c2 hk) hw gX3_lands_X3_goesDown rfl (q0 := 0) rfl rfl (show nPar yX3_goesDown RX3 2 = true by decide +kernel) ⟨Nat.le_of_ble_eq_true rfl, Nat.le_of_ble_eq_true rfl⟩ rfl (Nat.le_of_ble_eq_true rfl) ⟨by show _ ≤ cp (lands Z d s2 k) - cp d; omega, by show _ ≤ 2 * (cp (lands Z d s2 k) - cp d); omega⟩ (fun u3 hR3 => ?_)
      refine g_goto h (pc := 94) (tgt := 105) dX3_lands_94 (by decide) ?_
      exact hret u3 dX3_lands_105 hR3 rfl (by omega) (by omega)
    · have e2 : lands Z d s2 k = serveM Z (xA d i) s2 k c := by rw [e1]; unfold serve; rw [b1, if_neg (show ¬ (2 : Int32) = 0 by decide), if_neg (show ¬ (2 : Int32) = 1 by decide), c2, nI_clamp (by omega)]
      have mg : cp (lands Z d s2 k) = cp (serveM Z (xA d i) s2 k c) := by rw [e2]
      rw [e2] at hret
      rw [b1, c2]
      refine g_if_ne_t h (pc := 62) (tgt := 81) dX3_lands_62 (by decide) (by decide) ?_
      refine g_iload h (pc := 81) dX3_lands_81 4 rfl ?_
      refine g_iconst h (pc := 83) (v := 1) dX3_lands_83 (by decide) ?_
      refine g_icmp_ne_t h (pc := 84) (tgt := 97) dX3_lands_84 (by decide) (by decide) ?_
      refine g_aload_n h (pc := 97) dX3_lands_97 0 rfl ?_
      refine g_iload_n h (pc := 98) dX3_lands_98 1 rfl ?_
      refine g_iload_n h (pc := 99) dX3_lands_99 2 rfl ?_
      refine g_iload h (pc := 100) dX3_lands_100 5 rfl ?_
      refine g_callV h (pc := 102) (As := [.int (nI s2), .int (nI k), .int (nI c)]) (st := []) dX3_lands_102 (c_serveM (gL C) (gD C) cI cO a u2 Z _ hR2 ns nk hz (by omega) s2 k c hs hk c1) hw gX3_lands_X3_mendGetsCore rfl (q0 := 0) rfl rfl (show nPar yX3_mendGetsCore RX3 3 = true by decide +kernel) ⟨Nat.le_of_ble_eq_true rfl, Nat.le_of_ble_eq_true rfl⟩ rfl (Nat.le_of_ble_eq_true rfl) ⟨by show _ ≤ cp (lands Z d s2 k) - cp d; omega, by show _ ≤ 2 * (cp (lands Z d s2 k) - cp d); omega⟩ (fun u3 hR3 => ?_)
      exact hret u3 dX3_lands_105 hR3 rfl (by omega) (by omega)

theorem fstT_at {t : Int32} {L : List E5} {p : Nat} {e : E5} (hp : L[p]? = some e) (he : col 3 e = t) (hb : ∀ (i : Nat) (x : E5), i < p → L[i]? = some x → col 3 x ≠ t) : fstT t L = p := by
  obtain ⟨h1, h2⟩ := List.getElem?_eq_some_iff.mp hp
  unfold fstT
  rw [List.findIdx_eq h1]
  refine ⟨by rw [h2]; exact decide_eq_true he, fun j hj => ?_⟩
  exact decide_eq_false (hb j _ hj (List.getElem?_eq_getElem (by omega)))
theorem fstT_no {t : Int32} {L : List E5} (hb : ∀ (i : Nat) (x : E5), L[i]? = some x → col 3 x ≠ t) : L[fstT t L]? = none := by
  cases h : L[fstT t L]? with
  | none => rfl
  | some e =>
    obtain ⟨h2, h3⟩ := List.getElem?_eq_some_iff.mp h
    have h4 : decide (col 3 (L[fstT t L]'h2) = t) = true := List.findIdx_getElem (w := h2)
    rw [h3] at h4
    exact absurd (of_decide_eq_true h4) (hb _ e h)
theorem doAll_no {Z : Sg} {d : Dy} (h : d.2.2.1[fstT (Z 14 0 2) d.2.2.1]? = none) : ∀ n, doAll Z n d = d
  | 0 => rfl
  | n + 1 => by rw [doAll, h]
theorem doAll_so {Z : Sg} {d : Dy} {e : E5} {p : Nat} (hp : fstT (Z 14 0 2) d.2.2.1 = p) (h : d.2.2.1[p]? = some e) (n : Nat) : doAll Z (n + 1) d = doAll Z n (does Z d p e) := by
  rw [doAll, hp, h]
theorem cpl_does (Z : Sg) (d : Dy) (i : Nat) (e : E5) : cp d ≤ cp (does Z d i e) := by
  unfold does
  split
  · exact cpl_back Z (xU d i) _ _ _
  · exact cpl_lands Z (xU d i) _ _
theorem cpl_doAll (Z : Sg) : ∀ (n : Nat) (d : Dy), cp d ≤ cp (doAll Z n d)
  | 0, d => Nat.le_refl _
  | n + 1, d => by
    rw [doAll]
    split
    · exact Nat.le_refl _
    · exact Nat.le_trans (cpl_does Z d _ _) (cpl_doAll Z n _)
/-- at the place p, m dues still to look at: none ahead of p and none behind p + m is due now -/
def Jd (Z : Sg) (p m : Nat) (d : Dy) : Prop := p + m ≤ d.2.2.1.length ∧ (∀ (i : Nat) (x : E5), i < p → d.2.2.1[i]? = some x → col 3 x ≠ Z 14 0 2) ∧ ∀ (i : Nat) (x : E5), p + m ≤ i → d.2.2.1[i]? = some x → col 3 x ≠ Z 14 0 2
theorem Jd.skip {Z : Sg} {p m : Nat} {d : Dy} {e : E5} (h : Jd Z p (m + 1) d) (hp : d.2.2.1[p]? = some e) (he : col 3 e ≠ Z 14 0 2) : Jd Z (p + 1) m d := by
  obtain ⟨h1, h2, h3⟩ := h
  refine ⟨by omega, fun i x hi hx => ?_, fun i x hi hx => h3 i x (by omega) hx⟩
  by_cases q : i = p
  · subst q
    rw [hp] at hx
    cases hx
    exact he
  · exact h2 i x (by omega) hx
theorem late_ne {ns nk t : Nat} {Z : Sg} (hz : Zx ns nk t Z) {e : E5} (h : okU ns nk Z (t + 1) e) : col 3 e ≠ Z 14 0 2 := by
  obtain ⟨s, k, t2, -, -, -, -, h5, h6, h7, -⟩ := h
  have := hz.t5
  rw [h5, hz.tt]
  exact fun q => absurd ((nI_eq (by omega) (by omega)).mp q) (by omega)
theorem Jd.did {ns nk t : Nat} {Z : Sg} (hz : Zx ns nk t Z) {p m : Nat} {d : Dy} {e : E5} (h : Jd Z p (m + 1) d) (hp : d.2.2.1[p]? = some e) (hd : Dv ns nk Z t d) : Jd Z p m (does Z d p e) := by
  obtain ⟨h1, h2, h3⟩ := h
  obtain ⟨-, -, NU, hU, hN⟩ := does_ok hz d p e hp (Nat.le_succ t) hd
  have hl := (List.getElem?_eq_some_iff.mp hp).1
  have hle : (d.2.2.1.eraseIdx p).length = d.2.2.1.length - 1 := List.length_eraseIdx_of_lt hl
  have key : ∀ (i : Nat) (x : E5), (does Z d p e).2.2.1[i]? = some x → (i < p ∧ d.2.2.1[i]? = some x) ∨ (p ≤ i ∧ d.2.2.1[i + 1]? = some x) ∨ (d.2.2.1.length - 1 ≤ i ∧ col 3 x ≠ Z 14 0 2) := by
    intro i x hx
    rw [hU] at hx
    by_cases q : i < d.2.2.1.length - 1
    · rw [List.getElem?_append_left (by omega), List.getElem?_eraseIdx] at hx
      split at hx
      · exact Or.inl ⟨by assumption, hx⟩
      · exact Or.inr (Or.inl ⟨by omega, hx⟩)
    · rw [List.getElem?_append_right (by omega)] at hx
      exact Or.inr (Or.inr ⟨by omega, late_ne hz (hN x (List.mem_of_getElem? hx))⟩)
  refine ⟨by rw [hU, List.length_append]; omega, fun i x hi hx => ?_, fun i x hi hx => ?_⟩
  · rcases key i x hx with ⟨q1, q2⟩ | ⟨q1, q2⟩ | ⟨q1, q2⟩
    · exact h2 i x hi q2
    · omega
    · exact q2
  · rcases key i x hx with ⟨q1, q2⟩ | ⟨q1, q2⟩ | ⟨q1, q2⟩
    · omega
    · exact h3 (i + 1) x (by omega) q2
    · exact q2
theorem Jd.none {Z : Sg} {p : Nat} {d : Dy} (h : Jd Z p 0 d) : d.2.2.1[fstT (Z 14 0 2) d.2.2.1]? = .none := fstT_no (fun i x hx => by
  by_cases q : i < p
  · exact h.2.1 i x q hx
  · exact h.2.2 i x (by omega) hx)
theorem cso_1 {x : Int32} (h : x = 3) : cso x = 1 := by subst h; decide
theorem cso_n {x : Int32} (h : x = 0 ∨ x = 1 ∨ x = 2) : ¬ cso x = 1 := by rcases h with rfl | rfl | rfl <;> decide

theorem iX3_doWhatIsDue_3 : ∀ w ∈ wsX30, w ∈ wsX3_doWhatIsDue := by decide +kernel
theorem fX3_doWhatIsDue_45 : Cond.fieldLink RX3 45 "SpareShelves" "dues" "LSpareShelves$Line;" ∈ wsX3_doWhatIsDue := by decide +kernel
theorem iX3_doWhatIsDue_1 : ∀ w ∈ wsX10, w ∈ wsX3_doWhatIsDue := by decide +kernel
theorem fX3_doWhatIsDue_98 : Cond.fieldLink RX3 98 "SpareShelves$Line" "size" "I" ∈ wsX3_doWhatIsDue := by decide +kernel
theorem fX3_doWhatIsDue_48 : Cond.fieldLink RX3 48 "SpareShelves" "time" "I" ∈ wsX3_doWhatIsDue := by decide +kernel
set_option maxHeartbeats 4000000 in
set_option maxRecDepth 100000 in
theorem c_due (l : Launch) (D : va_G) (cI cO : ClassId) (a : Nat → Nat) (u : UX) (Z : Sg) (d : Dy) (hRC : RC d u) (ns nk : Nat) (hz : Zv ns nk Z) (t : Nat) (hzx : Zx ns nk t Z) (hd : Dv ns nk Z t d) (hph : Ph d ≤ 20000) : CVc l yX3_doWhatIsDue wsX3_doWhatIsDue 7 250 D cI cO a u Z d [] Z (doAll Z d.2.2.1.length d) := by
  unfold CVc
  refine CV.of (cc := cX3_doWhatIsDue) (maxL := 8) (by decide) rfl (Nat.le_of_ble_eq_true rfl) ?_
  intro C hgL hgD hw h hret
  have hn8 := hz.n8
  have hk8 := hz.k8
  have hlen : d.2.2.1.length ≤ 20000 := Nat.le_trans (Nat.le_trans (Nat.le_add_left _ _) (Ph_sz d)) hph
  refine g_aload_n h (pc := 0) dX3_doWhatIsDue_0 0 rfl ?_
  refine g_get h (pc := 1) dX3_doWhatIsDue_1 iX3_doWhatIsDue_3 0 rfl rfl 7 (by decide) fX3_doWhatIsDue_45 rfl ?_
  refine g_get h (pc := 4) dX3_doWhatIsDue_4 iX3_doWhatIsDue_1 44 rfl rfl 1 (by decide) fX3_doWhatIsDue_98 rfl ?_
  refine g_topi (y := nI d.2.2.1.length) (by rw [List.length_map]) ?_
  refine g_istore_n h (pc := 7) dX3_doWhatIsDue_7 (by decide) rfl ?_
  refine g_iconst h (pc := 8) (v := 0) dX3_doWhatIsDue_8 (by decide) ?_
  refine g_istore_n h (pc := 9) dX3_doWhatIsDue_9 (by decide) rfl ?_
  refine g_iconst h (pc := 10) (v := 0) dX3_doWhatIsDue_10 (by decide) ?_
  refine g_istore_n h (pc := 11) dX3_doWhatIsDue_11 (by decide) rfl ?_
  refine g_wid (k' := cp d - cp d) (n' := 2 * (cp d - cp d)) (by omega) (by omega) ?_
  suffices loop : ∀ (m i p F : Nat) (d1 : Dy) (u1 : UX), i + m = d.2.2.1.length → m ≤ F → p ≤ i → Jd Z p m d1 → doAll Z F d1 = doAll Z d.2.2.1.length d → RC d1 u1 → cp d ≤ cp d1 → Dv ns nk Z t d1 → Ph d1 ≤ 20000 → GG C 8 (cw cI cO a u1 Z d1) (cp d1 - cp d) (2 * (cp d1 - cp d)) 12 [(0, .ref (a 0)), (1, .int (nI d.2.2.1.length)), (2, .int (nI p)), (3, .int (nI i))] [] from loop d.2.2.1.length 0 0 d.2.2.1.length d u (by omega) (Nat.le_refl _) (Nat.le_refl _) ⟨by omega, fun i x hi => absurd hi (by omega), fun i x hi hx => absurd (List.getElem?_eq_some_iff.mp hx).1 (by omega)⟩ rfl hRC (Nat.le_refl _) hd hph
  intro m
  induction m with
  | zero =>
    intro i p F d1 u1 h1 hF hpi hJ hm hR1 hc1 hd1 hp1
    refine g_iload_n h (pc := 12) dX3_doWhatIsDue_12 3 rfl ?_
    refine g_iload_n h (pc := 13) dX3_doWhatIsDue_13 1 rfl ?_
    refine g_icmp_ge_t h (pc := 14) (tgt := 124) dX3_doWhatIsDue_14 (by decide) (nI_le (by omega) (by omega)) ?_
    rw [doAll_no hJ.none] at hm
    subst hm
    exact hret u1 dX3_doWhatIsDue_124 hR1 rfl (Nat.le_refl _) (Nat.le_refl _)
  | succ m ih =>
    intro i p F d1 u1 h1 hF hpi hJ hm hR1 hc1 hd1 hp1
    have hlen1 : d1.2.2.1.length ≤ 20000 := Nat.le_trans (Nat.le_trans (Nat.le_add_left _ _) (Ph_sz d1)) hp1
    have hsz1 : sz d1 ≤ 20000 := Nat.le_trans (Ph_sz d1) hp1
    have hpl : p < d1.2.2.1.length := by have := hJ.1; omega
    obtain ⟨e, he⟩ : ∃ e, d1.2.2.1[p]? = some e := ⟨_, List.getElem?_eq_getElem hpl⟩
    have hme : (d1.2.2.1.map ce)[p]? = some (ce e) := by rw [List.getElem?_map, he]; rfl
    have cpf : cp d1 ≤ cp (doAll Z d.2.2.1.length d) := by rw [← hm]; exact cpl_doAll Z F d1
    refine g_iload_n h (pc := 12) dX3_doWhatIsDue_12 3 rfl ?_
    refine g_iload_n h (pc := 13) dX3_doWhatIsDue_13 1 rfl ?_
    refine g_icmp_ge_f h (pc := 14) (tgt := 124) dX3_doWhatIsDue_14 (by decide) (nI_ge (by omega) (by omega)) ?_
    refine g_aload_n h (pc := 17) dX3_doWhatIsDue_17 0 rfl ?_
    refine g_get h (pc := 18) dX3_doWhatIsDue_18 iX3_doWhatIsDue_3 0 rfl rfl 7 (by decide) fX3_doWhatIsDue_45 rfl ?_
    refine g_iload_n h (pc := 21) dX3_doWhatIsDue_21 2 rfl ?_
    refine g_iconst h (pc := 22) (v := 3) dX3_doWhatIsDue_22 (by decide) ?_
    refine g_callR h (pc := 23) (As := [.int (nI p), .int 3]) (st := []) dX3_doWhatIsDue_23 (c_read (gL C) (gD C) cI cO (lb (a 44) u1.2.1) d1.2.2.2.2 u1.2.2.2.2 (d1.2.2.1.map ce) hR1.2.1 p (ce e) hme 3 (by decide) _ 3 rfl rfl) [44, 45] rfl (by decide) gX3_doWhatIsDue_X1_read rfl (q0 := 0) rfl rfl (show nPar yX1_read RX1 2 = true by decide +kernel) ⟨Nat.le_of_ble_eq_true rfl, Nat.le_of_ble_eq_true rfl⟩ rfl (Nat.le_of_ble_eq_true rfl) ⟨by show _ ≤ cp (doAll Z d.2.2.1.length d) - cp d; omega, by show _ ≤ 2 * (cp (doAll Z d.2.2.1.length d) - cp d); omega⟩ (fun r1 hr1 => ?_)
    subst hr1
    refine g_aload_n h (pc := 26) dX3_doWhatIsDue_26 0 rfl ?_
    refine g_get h (pc := 27) dX3_doWhatIsDue_27 iX3_doWhatIsDue_3 0 rfl rfl 8 (by decide) fX3_doWhatIsDue_48 rfl ?_
    by_cases hnow : col 3 e = Z 14 0 2
    · refine g_icmp_eq_t h (pc := 30) (tgt := 39) dX3_doWhatIsDue_30 (by decide) hnow ?_
      refine g_aload_n h (pc := 39) dX3_doWhatIsDue_39 0 rfl ?_
      refine g_get h (pc := 40) dX3_doWhatIsDue_40 iX3_doWhatIsDue_3 0 rfl rfl 7 (by decide) fX3_doWhatIsDue_45 rfl ?_
      refine g_iload_n h (pc := 43) dX3_doWhatIsDue_43 2 rfl ?_
      refine g_iconst h (pc := 44) (v := 0) dX3_doWhatIsDue_44 (by decide) ?_
      obtain ⟨F, rfl⟩ : ∃ F1, F = F1 + 1 := ⟨F - 1, by omega⟩
      rw [doAll_so (fstT_at he hnow hJ.2.1) he] at hm
      have hJ2 := hJ.did hzx he hd1
      obtain ⟨ok1, ok2, -⟩ := does_ok hzx d1 p e he (Nat.le_succ t) hd1
      have cq1 := cpl_does Z d1 p e
      have cq2 : cp (does Z d1 p e) ≤ cp (doAll Z d.2.2.1.length d) := by rw [← hm]; exact cpl_doAll Z F _
      obtain ⟨s, k, t2, a1, a2, a3, a4, a5, a6, a7, a8⟩ := hd1.2 e (List.mem_of_getElem? he)
      refine g_callR h (pc := 45) (As := [.int (nI p), .int 0]) (st := []) dX3_doWhatIsDue_45 (c_read (gL C) (gD C) cI cO (lb (a 44) u1.2.1) d1.2.2.2.2 u1.2.2.2.2 (d1.2.2.1.map ce) hR1.2.1 p (ce e) hme 0 (by decide) _ 0 rfl rfl) [44, 45] rfl (by decide) gX3_doWhatIsDue_X1_read rfl (q0 := 0) rfl rfl (show nPar yX1_read RX1 2 = true by decide +kernel) ⟨Nat.le_of_ble_eq_true rfl, Nat.le_of_ble_eq_true rfl⟩ rfl (Nat.le_of_ble_eq_true rfl) ⟨by show _ ≤ cp (doAll Z d.2.2.1.length d) - cp d; omega, by show _ ≤ 2 * (cp (doAll Z d.2.2.1.length d) - cp d); omega⟩ (fun q0 hq0 => ?_)
      subst hq0
      refine g_istore h (pc := 48) dX3_doWhatIsDue_48 (by decide) rfl ?_
      refine g_aload_n h (pc := 50) dX3_doWhatIsDue_50 0 rfl ?_
      refine g_get h (pc := 51) dX3_doWhatIsDue_51 iX3_doWhatIsDue_3 0 rfl rfl 7 (by decide) fX3_doWhatIsDue_45 rfl ?_
      refine g_iload_n h (pc := 54) dX3_doWhatIsDue_54 2 rfl ?_
      refine g_iconst h (pc := 55) (v := 1) dX3_doWhatIsDue_55 (by decide) ?_
      refine g_callR h (pc := 56) (As := [.int (nI p), .int 1]) (st := []) dX3_doWhatIsDue_56 (c_read (gL C) (gD C) cI cO (lb (a 44) u1.2.1) d1.2.2.2.2 u1.2.2.2.2 (d1.2.2.1.map ce) hR1.2.1 p (ce e) hme 1 (by decide) _ 1 rfl rfl) [44, 45] rfl (by decide) gX3_doWhatIsDue_X1_read rfl (q0 := 0) rfl rfl (show nPar yX1_read RX1 2 = true by decide +kernel) ⟨Nat.le_of_ble_eq_true rfl, Nat.le_of_ble_eq_true rfl⟩ rfl (Nat.le_of_ble_eq_true rfl) ⟨by show _ ≤ cp (doAll Z d.2.2.1.length d) - cp d; omega, by show _ ≤ 2 * (cp (doAll Z d.2.2.1.length d) - cp d); omega⟩ (fun q1 hq1 => ?_)
      subst hq1
      refine g_istore h (pc := 59) dX3_doWhatIsDue_59 (by decide) rfl ?_
      refine g_aload_n h (pc := 61) dX3_doWhatIsDue_61 0 rfl ?_
      refine g_get h (pc := 62) dX3_doWhatIsDue_62 iX3_doWhatIsDue_3 0 rfl rfl 7 (by decide) fX3_doWhatIsDue_45 rfl ?_
      refine g_iload_n h (pc := 65) dX3_doWhatIsDue_65 2 rfl ?_
      refine g_iconst h (pc := 66) (v := 2) dX3_doWhatIsDue_66 (by decide) ?_
      refine g_callR h (pc := 67) (As := [.int (nI p), .int 2]) (st := []) dX3_doWhatIsDue_67 (c_read (gL C) (gD C) cI cO (lb (a 44) u1.2.1) d1.2.2.2.2 u1.2.2.2.2 (d1.2.2.1.map ce) hR1.2.1 p (ce e) hme 2 (by decide) _ 2 rfl rfl) [44, 45] rfl (by decide) gX3_doWhatIsDue_X1_read rfl (q0 := 0) rfl rfl (show nPar yX1_read RX1 2 = true by decide +kernel) ⟨Nat.le_of_ble_eq_true rfl, Nat.le_of_ble_eq_true rfl⟩ rfl (Nat.le_of_ble_eq_true rfl) ⟨by show _ ≤ cp (doAll Z d.2.2.1.length d) - cp d; omega, by show _ ≤ 2 * (cp (doAll Z d.2.2.1.length d) - cp d); omega⟩ (fun q2 hq2 => ?_)
      subst hq2
      refine g_istore h (pc := 70) dX3_doWhatIsDue_70 (by decide) rfl ?_
      refine g_aload_n h (pc := 72) dX3_doWhatIsDue_72 0 rfl ?_
      refine g_get h (pc := 73) dX3_doWhatIsDue_73 iX3_doWhatIsDue_3 0 rfl rfl 7 (by decide) fX3_doWhatIsDue_45 rfl ?_
      refine g_iload_n h (pc := 76) dX3_doWhatIsDue_76 2 rfl ?_
      refine g_iconst h (pc := 77) (v := 4) dX3_doWhatIsDue_77 (by decide) ?_
      refine g_callR h (pc := 78) (As := [.int (nI p), .int 4]) (st := []) dX3_doWhatIsDue_78 (c_read (gL C) (gD C) cI cO (lb (a 44) u1.2.1) d1.2.2.2.2 u1.2.2.2.2 (d1.2.2.1.map ce) hR1.2.1 p (ce e) hme 4 (by decide) _ 4 rfl rfl) [44, 45] rfl (by decide) gX3_doWhatIsDue_X1_read rfl (q0 := 0) rfl rfl (show nPar yX1_read RX1 2 = true by decide +kernel) ⟨Nat.le_of_ble_eq_true rfl, Nat.le_of_ble_eq_true rfl⟩ rfl (Nat.le_of_ble_eq_true rfl) ⟨by show _ ≤ cp (doAll Z d.2.2.1.length d) - cp d; omega, by show _ ≤ 2 * (cp (doAll Z d.2.2.1.length d) - cp d); omega⟩ (fun q3 hq3 => ?_)
      subst hq3
      refine g_istore h (pc := 81) dX3_doWhatIsDue_81 (by decide) rfl ?_
      refine g_aload_n h (pc := 83) dX3_doWhatIsDue_83 0 rfl ?_
      refine g_get h (pc := 84) dX3_doWhatIsDue_84 iX3_doWhatIsDue_3 0 rfl rfl 7 (by decide) fX3_doWhatIsDue_45 rfl ?_
      refine g_iload_n h (pc := 87) dX3_doWhatIsDue_87 2 rfl ?_
      refine g_ddrop h hw (pc := 88) dX3_doWhatIsDue_88 hR1 p hpl gX3_doWhatIsDue_X1_drop ⟨Nat.le_of_ble_eq_true rfl, Nat.le_of_ble_eq_true rfl⟩ (Nat.le_of_ble_eq_true rfl) ⟨by show _ ≤ cp (doAll Z d.2.2.1.length d) - cp d; omega, by show _ ≤ 2 * (cp (doAll Z d.2.2.1.length d) - cp d); omega⟩ (fun u2 hR2 => ?_)
      refine g_iload h (pc := 91) dX3_doWhatIsDue_91 6 rfl ?_
      refine g_iconst h (pc := 93) (v := 1) dX3_doWhatIsDue_93 (by decide) ?_
      have ez := sz_xU d1 p
      have ec : cp (xU d1 p) = cp d1 := rfl
      have tl : ∀ (u3 : UX) (lv : List (Nat × Value)), lv_pick lv [0, 1, 2, 3] = [(0, .ref (a 0)), (1, .int (nI d.2.2.1.length)), (2, .int (nI p)), (3, .int (nI i))] → RC (does Z d1 p e) u3 → GG C 8 (cw cI cO a u3 Z (does Z d1 p e)) (cp (does Z d1 p e) - cp d) (2 * (cp (does Z d1 p e) - cp d)) 118 lv [] := by
        intro u3 lv hlv hR3
        refine g_lvp [0, 1, 2, 3] hlv ?_
        refine g_iinc h (pc := 118) dX3_doWhatIsDue_118 3 rfl (nI_1 i) (by decide) rfl ?_
        refine g_goto h (pc := 121) (tgt := 12) dX3_doWhatIsDue_121 (by decide) ?_
        exact ih (i + 1) p F _ u3 (by omega) (by omega) (by omega) hJ2 hm hR3 (by omega) ok2 (by omega)
      rcases a8 with b | ⟨b, hh⟩
      · have e2 : does Z d1 p e = lands Z (xU d1 p) s k := by unfold does; rw [if_neg (by rcases b with b | b | b <;> rw [b] <;> decide), a3, a4, nI_clamp (by omega), nI_clamp (by omega)]
        have mg : cp (does Z d1 p e) = cp (lands Z (xU d1 p) s k) := by rw [e2]
        have mh := cpl_lands Z (xU d1 p) s k
        refine g_icmp_ne_t h (pc := 94) (tgt := 110) dX3_doWhatIsDue_94 (by decide) (cso_n b) ?_
        rw [show col 0 (ce e) = nI s from a3, show col 1 (ce e) = nI k from a4]
        refine g_aload_n h (pc := 110) dX3_doWhatIsDue_110 0 rfl ?_
        refine g_iload h (pc := 111) dX3_doWhatIsDue_111 4 rfl ?_
        refine g_iload h (pc := 113) dX3_doWhatIsDue_113 5 rfl ?_
        refine g_callV h (pc := 115) (As := [.int (nI s), .int (nI k)]) (st := []) dX3_doWhatIsDue_115 (c_lands (gL C) (gD C) cI cO a u2 Z _ hR2 ns nk hz (by omega) hd1.1 s k a1 a2) hw gX3_doWhatIsDue_X3_lands rfl (q0 := 0) rfl rfl (show nPar yX3_lands RX3 2 = true by decide +kernel) ⟨Nat.le_of_ble_eq_true rfl, Nat.le_of_ble_eq_true rfl⟩ rfl (Nat.le_of_ble_eq_true rfl) ⟨by show _ ≤ cp (doAll Z d.2.2.1.length d) - cp d; omega, by show _ ≤ 2 * (cp (doAll Z d.2.2.1.length d) - cp d); omega⟩ (fun u3 hR3 => ?_)
        refine g_wid (k' := cp (does Z d1 p e) - cp d) (n' := 2 * (cp (does Z d1 p e) - cp d)) (by omega) (by omega) ?_
        refine g_eq (by rw [e2]) (tl u3 _ rfl (by rw [e2]; exact hR3))
      · have e2 : does Z d1 p e = back Z (xU d1 p) s k (col 4 e) := by unfold does; rw [if_pos b, a3, a4, nI_clamp (by omega), nI_clamp (by omega)]
        have mg : cp (does Z d1 p e) = cp (back Z (xU d1 p) s k (col 4 e)) := by rw [e2]
        have mh := cpl_back Z (xU d1 p) s k (col 4 e)
        refine g_icmp_ne_f h (pc := 94) (tgt := 110) dX3_doWhatIsDue_94 (by decide) (cso_1 b) ?_
        rw [show col 0 (ce e) = nI s from a3, show col 1 (ce e) = nI k from a4, show col 4 (ce e) = col 4 e from if_pos b]
        refine g_aload_n h (pc := 97) dX3_doWhatIsDue_97 0 rfl ?_
        refine g_iload h (pc := 98) dX3_doWhatIsDue_98 4 rfl ?_
        refine g_iload h (pc := 100) dX3_doWhatIsDue_100 5 rfl ?_
        refine g_iload h (pc := 102) dX3_doWhatIsDue_102 7 rfl ?_
        refine g_callV h (pc := 104) (As := [.int (nI s), .int (nI k), .int (col 4 e)]) (st := []) dX3_doWhatIsDue_104 (c_back (gL C) (gD C) cI cO a u2 Z _ hR2 ns nk hz (by omega) s k a1 a2 (col 4 e) hh) hw gX3_doWhatIsDue_X3_goesBack rfl (q0 := 0) rfl rfl (show nPar yX3_goesBack RX3 3 = true by decide +kernel) ⟨Nat.le_of_ble_eq_true rfl, Nat.le_of_ble_eq_true rfl⟩ rfl (Nat.le_of_ble_eq_true rfl) ⟨by show _ ≤ cp (doAll Z d.2.2.1.length d) - cp d; omega, by show _ ≤ 2 * (cp (doAll Z d.2.2.1.length d) - cp d); omega⟩ (fun u3 hR3 => ?_)
        refine g_goto h (pc := 107) (tgt := 118) dX3_doWhatIsDue_107 (by decide) ?_
        refine g_wid (k' := cp (does Z d1 p e) - cp d) (n' := 2 * (cp (does Z d1 p e) - cp d)) (by omega) (by omega) ?_
        refine g_eq (by rw [e2]) (tl u3 _ rfl (by rw [e2]; exact hR3))
    · refine g_icmp_eq_f h (pc := 30) (tgt := 39) dX3_doWhatIsDue_30 (by decide) hnow ?_
      refine g_iinc h (pc := 33) dX3_doWhatIsDue_33 2 rfl (nI_1 p) (by decide) rfl ?_
      refine g_goto h (pc := 36) (tgt := 118) dX3_doWhatIsDue_36 (by decide) ?_
      refine g_iinc h (pc := 118) dX3_doWhatIsDue_118 3 rfl (nI_1 i) (by decide) rfl ?_
      refine g_goto h (pc := 121) (tgt := 12) dX3_doWhatIsDue_121 (by decide) ?_
      exact ih (i + 1) (p + 1) F d1 u1 (by omega) (by omega) (by omega) (hJ.skip he hnow) hm hR1 hc1 hd1 hp1

theorem iX3_countStanding_3 : ∀ w ∈ wsX30, w ∈ wsX3_countStanding := by decide +kernel
theorem fX3_countStanding_41 : Cond.fieldLink RX3 41 "SpareShelves" "asks" "LSpareShelves$Line;" ∈ wsX3_countStanding := by decide +kernel
theorem iX3_countStanding_1 : ∀ w ∈ wsX10, w ∈ wsX3_countStanding := by decide +kernel
theorem fX3_countStanding_98 : Cond.fieldLink RX3 98 "SpareShelves$Line" "size" "I" ∈ wsX3_countStanding := by decide +kernel
theorem fX3_countStanding_31 : Cond.fieldLink RX3 31 "SpareShelves" "stood" "[I" ∈ wsX3_countStanding := by decide +kernel
set_option maxHeartbeats 4000000 in
set_option maxRecDepth 100000 in
theorem c_stand (l : Launch) (D : va_G) (cI cO : ClassId) (a : Nat → Nat) (u : UX) (Z : Sg) (d : Dy) (hRC : RC d u) (ns nk : Nat) (hz : Zv ns nk Z) (hA : ∀ e ∈ d.2.1, okA ns nk Z e) (hl : d.2.1.length ≤ 20000) : CVc l yX3_countStanding wsX3_countStanding 1 24 D cI cO a u Z d [] Z (stands d) := by
  unfold CVc
  refine CV.of (cc := cX3_countStanding) (maxL := 2) (by decide) rfl (Nat.le_of_ble_eq_true rfl) ?_
  intro C hgL hgD hw h hret
  have hn8 := hz.n8
  have hk8 := hz.k8
  refine g_iconst h (pc := 0) (v := 0) dX3_countStanding_0 (by decide) ?_
  refine g_istore_n h (pc := 1) dX3_countStanding_1 (by decide) rfl ?_
  suffices loop : ∀ (m i : Nat), i + m = d.2.1.length → GG C 2 (cw cI cO a u Z ((d.2.1.take i).foldl std1 d.1, d.2)) 0 0 2 [(0, .ref (a 0)), (1, .int (nI i))] [] from loop d.2.1.length 0 (by omega)
  intro m
  induction m with
  | zero =>
    intro i h1
    refine g_iload_n h (pc := 2) dX3_countStanding_2 1 rfl ?_
    refine g_aload_n h (pc := 3) dX3_countStanding_3 0 rfl ?_
    refine g_get h (pc := 4) dX3_countStanding_4 iX3_countStanding_3 0 rfl rfl 6 (by decide) fX3_countStanding_41 rfl ?_
    refine g_get h (pc := 7) dX3_countStanding_7 iX3_countStanding_1 42 rfl rfl 1 (by decide) fX3_countStanding_98 rfl ?_
    refine g_icmp_ge_t h (pc := 10) (tgt := 49) dX3_countStanding_10 (by decide) (nI_le (a := d.2.1.length) (b := i) (by omega) (by omega)) ?_
    rw [List.take_of_length_le (by omega)]
    exact hret u dX3_countStanding_49 hRC rfl (Nat.zero_le _) (Nat.zero_le _)
  | succ m ih =>
    intro i h1
    obtain ⟨e, he⟩ : ∃ e, d.2.1[i]? = some e := ⟨_, List.getElem?_eq_getElem (show i < d.2.1.length by omega)⟩
    have hst : (d.2.1.take (i + 1)).foldl std1 d.1 = std1 ((d.2.1.take i).foldl std1 d.1) e := by rw [List.take_add_one, he, List.foldl_append]; rfl
    have h9 := ih (i + 1) (by omega)
    rw [hst] at h9
    generalize (d.2.1.take i).foldl std1 d.1 = z at h9 ⊢
    obtain ⟨s, k, a1, a2, a3, a4, a5⟩ := hA e (List.mem_of_getElem? he)
    refine g_iload_n h (pc := 2) dX3_countStanding_2 1 rfl ?_
    refine g_aload_n h (pc := 3) dX3_countStanding_3 0 rfl ?_
    refine g_get h (pc := 4) dX3_countStanding_4 iX3_countStanding_3 0 rfl rfl 6 (by decide) fX3_countStanding_41 rfl ?_
    refine g_get h (pc := 7) dX3_countStanding_7 iX3_countStanding_1 42 rfl rfl 1 (by decide) fX3_countStanding_98 rfl ?_
    refine g_icmp_ge_f h (pc := 10) (tgt := 49) dX3_countStanding_10 (by decide) (nI_ge (a := i) (b := d.2.1.length) (by omega) (by omega)) ?_
    refine g_aload_n h (pc := 13) dX3_countStanding_13 0 rfl ?_
    refine g_get h (pc := 14) dX3_countStanding_14 iX3_countStanding_3 0 rfl rfl 6 (by decide) fX3_countStanding_41 rfl ?_
    refine g_iload_n h (pc := 17) dX3_countStanding_17 1 rfl ?_
    refine g_iconst h (pc := 18) (v := 2) dX3_countStanding_18 (by decide) ?_
    refine g_callR h (pc := 19) (As := [.int (nI i), .int 2]) (st := []) dX3_countStanding_19 (c_read (gL C) (gD C) cI cO (lb (a 42) u.1) d.2.2.2.1 u.2.2.2.1 d.2.1 hRC.1 i e he 2 (by decide) _ 2 rfl rfl) [42, 43] rfl (by decide) gX3_countStanding_X1_read rfl (q0 := 0) rfl rfl (show nPar yX1_read RX1 2 = true by decide +kernel) ⟨Nat.le_of_ble_eq_true rfl, Nat.le_of_ble_eq_true rfl⟩ rfl (Nat.le_of_ble_eq_true rfl) ⟨Nat.zero_le _, Nat.zero_le _⟩ (fun r1 hr1 => ?_)
    subst hr1
    by_cases hm : col 2 e = 0
    · unfold std1 at h9
      rw [if_pos hm, a3, nI_clamp (by omega)] at h9
      refine g_if_ne_f h (pc := 22) (tgt := 43) dX3_countStanding_22 (by decide) hm ?_
      refine g_aload_n h (pc := 25) dX3_countStanding_25 0 rfl ?_
      refine g_get h (pc := 26) dX3_countStanding_26 iX3_countStanding_3 0 rfl rfl 4 (by decide) fX3_countStanding_31 rfl ?_
      refine g_aload_n h (pc := 29) dX3_countStanding_29 0 rfl ?_
      refine g_get h (pc := 30) dX3_countStanding_30 iX3_countStanding_3 0 rfl rfl 6 (by decide) fX3_countStanding_41 rfl ?_
      refine g_iload_n h (pc := 33) dX3_countStanding_33 1 rfl ?_
      refine g_iconst h (pc := 34) (v := 0) dX3_countStanding_34 (by decide) ?_
      refine g_callR h (pc := 35) (As := [.int (nI i), .int 0]) (st := [.ref (a 40)]) dX3_countStanding_35 (c_read (gL C) (gD C) cI cO (lb (a 42) u.1) d.2.2.2.1 u.2.2.2.1 d.2.1 hRC.1 i e he 0 (by decide) _ 0 rfl rfl) [42, 43] rfl (by decide) gX3_countStanding_X1_read rfl (q0 := 0) rfl rfl (show nPar yX1_read RX1 2 = true by decide +kernel) ⟨Nat.le_of_ble_eq_true rfl, Nat.le_of_ble_eq_true rfl⟩ rfl (Nat.le_of_ble_eq_true rfl) ⟨Nat.zero_le _, Nat.zero_le _⟩ (fun r2 hr2 => ?_)
      subst hr2
      rw [a3]
      refine g_dup2 h (pc := 38) dX3_countStanding_38 rfl rfl ?_
      refine g_iald h (pc := 39) (v := z 5 0 s) dX3_countStanding_39 40 rfl (vp_in_nI (by omega) (by omega)) (by rw [nI_clamp (by omega)]) ?_
      refine g_iconst h (pc := 40) (v := 1) dX3_countStanding_40 (by decide) ?_
      refine g_iadd h (pc := 41) dX3_countStanding_41  ?_
      refine g_iast h hw (pc := 42) (ws' := cw cI cO a u Z (su z 5 0 s (z 5 0 s + 1), d.2)) dX3_countStanding_42 40 rfl (vp_in_nI (by omega) (by omega)) (by rw [nI_clamp (by omega)]; rfl) ?_
      refine g_iinc h (pc := 43) dX3_countStanding_43 1 rfl (nI_1 i) (by decide) rfl ?_
      refine g_goto h (pc := 46) (tgt := 2) dX3_countStanding_46 (by decide) ?_
      exact h9
    · unfold std1 at h9
      rw [if_neg hm] at h9
      refine g_if_ne_t h (pc := 22) (tgt := 43) dX3_countStanding_22 (by decide) hm ?_
      refine g_iinc h (pc := 43) dX3_countStanding_43 1 rfl (nI_1 i) (by decide) rfl ?_
      refine g_goto h (pc := 46) (tgt := 2) dX3_countStanding_46 (by decide) ?_
      exact h9
