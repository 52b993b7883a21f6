/-! the rooms of the two lines stay small; rooms only grow -/
def Cq (d : Dy) : Prop := d.2.2.2.1 ≤ 262143 ∧ d.2.2.2.2 ≤ 262143
theorem capN_s {n c : Nat} (hn : n ≤ 26000) (hc : c ≤ 262143) : capN n c ≤ 262143 := by unfold capN; split <;> omega
theorem cq_dA {d : Dy} (h : Cq d) (hs : sz d ≤ 25990) (e : E5) : Cq (dA d e) := ⟨capN_s (by have : sz d = d.2.1.length + d.2.2.1.length := rfl; omega) h.1, h.2⟩
theorem cq_dU {d : Dy} (h : Cq d) (hs : sz d ≤ 25990) (e : E5) : Cq (dU d e) := ⟨h.1, capN_s (by have : sz d = d.2.1.length + d.2.2.1.length := rfl; omega) h.2⟩
theorem cq_up1 {Z : Sg} {d : Dy} (h : Cq d) (hs : sz d ≤ 25990) (x k : Nat) : Cq (up1 Z d x k) := by
  unfold up1
  split
  · exact cq_dA h hs _
  · exact cq_dU (d := dG d 7 (upx Z x) k (d.1 7 (upx Z x) k - 1)) h hs _
theorem cq_ups {Z : Sg} (k e : Nat) : ∀ (n x : Nat) (d : Dy), Cq d → sz d + n ≤ 25990 → Cq (ups Z k e n x d)
  | 0, x, d, h, _ => h
  | n + 1, x, d, h, hs => by
    rw [ups]
    split
    · exact h
    · exact cq_ups k e n (upx Z x) _ (cq_up1 h (by omega) x k) (by rw [sz_up1]; omega)
theorem cq_backP {Z : Sg} {d : Dy} (h : Cq d) (hs : sz d ≤ 25990) (s k : Nat) : Cq (backP Z d s k) := by
  unfold backP
  split
  · exact cq_dU h hs _
  · exact cq_dU h hs _
theorem cq_serveM {Z : Sg} {d : Dy} (h : Cq d) (hs : sz d ≤ 25900) (s c o : Nat) : Cq (serveM Z d s c o) := by
  unfold serveM
  have e1 : sz (inc (inc d 12 c) 13 c) = sz d := rfl
  have h1 : Cq (backP Z (inc (inc d 12 c) 13 c) s c) := cq_backP (d := inc (inc d 12 c) 13 c) h (by omega) s c
  have h2 := cq_ups (Z := Z) c (mOf Z c s) 8 s _ h1 (by rw [sz_backP]; omega)
  have h3 := sz_ups Z c (mOf Z c s) 8 s (backP Z (inc (inc d 12 c) 13 c) s c)
  rw [sz_backP] at h3
  exact cq_dU h2 (by omega) _
theorem cq_arrC {Z : Sg} {d : Dy} (h : Cq d) (hs : sz d ≤ 25900) (s k c : Nat) : Cq (arrC Z d s k c) := by
  unfold arrC
  split
  · exact cq_dA h (by omega) _
  · exact cq_serveM (d := dG d 7 s c (d.1 7 s c - 1)) h hs s c k
theorem cq_back {Z : Sg} {d : Dy} (h : Cq d) (hs : sz d ≤ 25900) (s k : Nat) (how : Int32) : Cq (back Z d s k how) := by
  unfold back
  split
  · split
    · exact cq_dU h (by omega) _
    · exact cq_arrC h hs _ _ _
  · exact cq_dU h (by omega) _
theorem cq_serve {Z : Sg} {d : Dy} (h : Cq d) (hs : sz d ≤ 25900) (s k : Nat) (e : E5) : Cq (serve Z d s k e) := by
  unfold serve
  split
  · exact h
  · split
    · exact cq_dU h (by omega) _
    · exact cq_serveM h hs _ _ _
theorem cq_lands {Z : Sg} {d : Dy} (h : Cq d) (hs : sz d ≤ 25900) (s k : Nat) : Cq (lands Z d s k) := by
  unfold lands
  split
  · exact h
  · exact cq_serve (d := xA d _) h (Nat.le_trans (sz_xA d _) hs) _ _ _
theorem cq_landsN {Z : Sg} (s k : Nat) : ∀ (n : Nat) (d : Dy), Cq d → sz d + 10 * n ≤ 25900 → Cq (landsN Z s k n d)
  | 0, d, h, _ => h
  | n + 1, d, h, hs => by
    rw [landsN]
    have e1 : sz (inc d 9 k) = sz d := rfl
    have h1 := sz_lands Z (inc d 9 k) s k
    exact cq_landsN s k n _ (cq_lands (d := inc d 9 k) h (by omega) s k) (by omega)
theorem cq_machine {Z : Sg} {d : Dy} (h : Cq d) (hs : sz d ≤ 25900) (s k : Nat) : Cq (machine Z d s k) := by
  unfold machine
  split
  · exact cq_dA h (by omega) _
  · exact h
theorem cq_breaks {Z : Sg} {d : Dy} (h : Cq d) (hs : sz d ≤ 25000) (s k : Nat) (how : Int32) : Cq (breaks Z d s k how) := by
  have e1 : sz (inc d 13 k) = sz d := rfl
  have h1 : Cq (machine Z (inc d 13 k) s k) := cq_machine (d := inc d 13 k) h (by omega) s k
  have h2 := sz_machine Z (inc d 13 k) s k
  unfold breaks
  split
  · have e2 : sz (inc (machine Z (inc d 13 k) s k) 10 k) = sz (machine Z (inc d 13 k) s k) := rfl
    have h3 := cq_ups (Z := Z) k 0 8 s (inc (machine Z (inc d 13 k) s k) 10 k) h1 (by omega)
    have h4 := sz_ups Z k 0 8 s (inc (machine Z (inc d 13 k) s k) 10 k)
    have e3 : sz (inc (ups Z k 0 8 s (inc (machine Z (inc d 13 k) s k) 10 k)) 9 k) = sz (ups Z k 0 8 s (inc (machine Z (inc d 13 k) s k) 10 k)) := rfl
    exact cq_dU (d := inc (ups Z k 0 8 s (inc (machine Z (inc d 13 k) s k) 10 k)) 9 k) h3 (by omega) _
  · have h3 := cq_back (Z := Z) h1 (by omega) s k how
    have h4 := sz_back Z (machine Z (inc d 13 k) s k) s k how
    exact cq_ups k _ 8 s _ h3 (by omega)
theorem cq_does {Z : Sg} {d : Dy} (h : Cq d) (hs : sz d ≤ 25900) (i : Nat) (e : E5) : Cq (does Z d i e) := by
  unfold does
  split
  · exact cq_back (d := xU d i) h (Nat.le_trans (sz_xU d i) hs) _ _ _
  · exact cq_lands (d := xU d i) h (Nat.le_trans (sz_xU d i) hs) _ _
theorem cq_doAll {ns nk t : Nat} {Z : Sg} (hz : Zx ns nk t Z) : ∀ (n : Nat) (d : Dy), Dv ns nk Z t d → Ph d ≤ 2000 → Cq d → Cq (doAll Z n d)
  | 0, d, _, _, h => h
  | n + 1, d, hd, hp, h => by
    rw [doAll]
    split
    · exact h
    · rename_i e he
      obtain ⟨h1, h2, -⟩ := does_ok hz d _ e he (Nat.le_succ t) hd
      have h3 := Ph_sz d
      exact cq_doAll hz n _ h2 (by omega) (cq_does h (by omega) _ e)
theorem cq_day {ns nk t B : Nat} {Z : Sg} {d : Dy} (h : Iv ns nk t B Z d) (ht : t + 1 ≤ 5000) (hc : Cq d) : Cq (dy1 (Z, d)).2 := by
  obtain ⟨hz, hp, hd, hph, hG⟩ := id h
  have e2 : (dy1 (Z, d)).2 = stands (doAll (su Z 14 0 2 (nI (t + 1))) d.2.2.1.length d) := by
    show stands (doAll (su Z 14 0 2 (Z 14 0 2 + 1)) _ d) = _
    rw [hz.tt, nI_1]
  have hd2 : Dv ns nk (su Z 14 0 2 (nI (t + 1))) (t + 1) d := hd
  rw [e2]
  exact cq_doAll (Zx_time hz ht) d.2.2.1.length d hd2 hph hc
theorem cq_dayN {ns nk : Nat} : ∀ (n t B : Nat) (Z : Sg) (d : Dy), Iv ns nk t B Z d → t + n ≤ 5000 → Cq d → Cq (dyN n (Z, d)).2
  | 0, t, B, Z, d, _, _, h => h
  | n + 1, t, B, Z, d, h, ht, hc => cq_dayN n (t + 1) (B + 2500) _ _ (day_keeps h (by omega)) (by omega) (cq_day h (by omega) hc)
/-- what a call comes to, as the law wants it -/
def Kp (B : Nat) (d : Dy) (r : RZD) : Prop := Iw (B + 200000) r.2.1 r.2.2 ∧ cp d ≤ cp r.2.2 ∧ Cq r.2.2
theorem kp_same {ns nk t B : Nat} {Z : Sg} {d : Dy} (h : Iv ns nk t B Z d) (hc : Cq d) (r : Int32) : Kp B d (r, Z, d) := ⟨h.same, Nat.le_refl _, hc⟩
theorem kp_kind {ns nk t B : Nat} {Z : Sg} {d : Dy} (h : Iv ns nk t B Z d) (hc : Cq d) (p b c : Int32) : Kp B d (kindP nk Z d p b c) := by
  have e : (kindP nk Z d p b c).2.2 = d := by unfold kindP; (repeat' split) <;> rfl
  exact ⟨kind_keeps h p b c, by rw [e]; exact Nat.le_refl _, by rw [e]; exact hc⟩
theorem kp_shelf {ns nk t B : Nat} {Z : Sg} {d : Dy} (h : Iv ns nk t B Z d) (hc : Cq d) (p b : Int32) : Kp B d (shelfP ns Z d p b) := by
  have e : (shelfP ns Z d p b).2.2 = d := by unfold shelfP; (repeat' split) <;> rfl
  exact ⟨shelf_keeps h p b, by rw [e]; exact Nat.le_refl _, by rw [e]; exact hc⟩
theorem kp_mend {ns nk t B : Nat} {Z : Sg} {d : Dy} (h : Iv ns nk t B Z d) (hc : Cq d) (p b c : Int32) : Kp B d (mendP ns nk Z d p b c) := by
  have e : (mendP ns nk Z d p b c).2.2 = d := by unfold mendP; (repeat' split) <;> rfl
  exact ⟨mend_keeps h p b c, by rw [e]; exact Nat.le_refl _, by rw [e]; exact hc⟩
theorem kp_rate {ns nk t B : Nat} {Z : Sg} {d : Dy} (h : Iv ns nk t B Z d) (hc : Cq d) (p b c : Int32) : Kp B d (rateP ns nk Z d p b c) := by
  have e : (rateP ns nk Z d p b c).2.2 = d := by unfold rateP; (repeat' split) <;> rfl
  exact ⟨rate_keeps h p b c, by rw [e]; exact Nat.le_refl _, by rw [e]; exact hc⟩
theorem kp_stock {ns nk t B : Nat} {Z : Sg} {d : Dy} (h : Iv ns nk t B Z d) (hc : Cq d) (p b c : Int32) : Kp B d (stockP ns nk Z d p b c) := by
  have h1 := Ph_sz d
  have h2 := h.2.2.2.1
  refine ⟨stock_keeps h p b c, ?_, ?_⟩
  · unfold stockP
    split
    · exact Nat.le_refl _
    · split
      · exact Nat.le_refl _
      · split
        · exact Nat.le_refl _
        · exact cpl_landsN _ _ _ _ _
  · unfold stockP
    split
    · exact hc
    · split
      · exact hc
      · rename_i q
        split
        · exact hc
        · obtain ⟨n0, n1, n2, n3⟩ := outB_in (lo := 1) (hi := 9) (a := 1) (b := 9) (n := c) (by cases e : outB c 1 9 <;> simp_all) rfl rfl (by decide) (by decide)
          subst n3
          refine cq_landsN _ _ _ d hc ?_
          rw [tN_nI (by omega)]
          omega
theorem kp_fails {ns nk t B : Nat} {Z : Sg} {d : Dy} (h : Iv ns nk t B Z d) (hc : Cq d) (p b c : Int32) : Kp B d (failsP ns nk Z d p b c) := by
  have h1 := Ph_sz d
  have h2 := h.2.2.2.1
  refine ⟨fails_keeps h p b c, ?_, ?_⟩
  · unfold failsP
    repeat' split
    all_goals first | exact Nat.le_refl _ | exact cpl_breaks _ _ _ _ _
  · unfold failsP
    repeat' split
    all_goals first | exact hc | exact cq_breaks hc (by omega) _ _ _
theorem kp_choose {ns nk t B : Nat} {Z : Sg} {d : Dy} (h : Iv ns nk t B Z d) (hc : Cq d) : Kp B d (chooseP ns nk Z d) := by
  have h1 := Ph_sz d
  have h2 := h.2.2.2.1
  refine ⟨choose_keeps h, ?_, ?_⟩
  · unfold chooseP
    split
    · exact Nat.le_refl _
    · split
      · exact Nat.le_refl _
      · rename_i q _ _
        exact cpl_lands Z (inc d 9 q.2) q.1 q.2
  · unfold chooseP
    split
    · exact hc
    · split
      · exact hc
      · rename_i q _ _
        have e1 : sz (inc d 9 q.2) = sz d := rfl
        exact cq_lands (d := inc d 9 q.2) hc (by omega) q.1 q.2
theorem kp_days {ns nk t B : Nat} {Z : Sg} {d : Dy} (h : Iv ns nk t B Z d) (hc : Cq d) (n : Int32) : Kp B d (daysP Z d n) := by
  refine ⟨days_keeps h n, ?_, ?_⟩
  · unfold daysP
    repeat' split
    all_goals first | exact Nat.le_refl _ | exact cpl_dyN _ (Z, d)
  · unfold daysP
    split
    · exact hc
    · rename_i q1
      split
      · exact hc
      · rename_i q2
        obtain ⟨n0, n1, n2, n3⟩ := outB_in (lo := 1) (hi := 60) (a := 1) (b := 60) (n := n) (by cases e : outB n 1 60 <;> simp_all) rfl rfl (by decide) (by decide)
        subst n3
        have ht := h.1.t5
        rw [h.1.tt, nI_add, show (5000 : Int32) = nI 5000 from rfl, nI_ltI (by omega) (by omega)] at q2
        show Cq (dyN (tN (nI n0)) (Z, d)).2
        rw [tN_nI (by omega)]
        exact cq_dayN n0 t B Z d h (by omega) hc
theorem Cq.cp {d : Dy} (h : Cq d) : cp d ≤ 524286 := Nat.add_le_add h.1 h.2
