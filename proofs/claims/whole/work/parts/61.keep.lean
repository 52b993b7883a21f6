/-! what holds of the joint state at every call: kept by every call -/
def Iv (ns nk t B : Nat) (Z : Sg) (d : Dy) : Prop := Zx ns nk t Z ∧ Zp nk Z ∧ Dv ns nk Z (t + 1) d ∧ Ph d ≤ 2000 ∧ Gd B d
def Iw (B : Nat) (Z : Sg) (d : Dy) : Prop := ∃ ns nk t, Iv ns nk t B Z d
theorem Iv.same {ns nk t B : Nat} {Z : Sg} {d : Dy} (h : Iv ns nk t B Z d) : Iw (B + 200000) Z d := ⟨ns, nk, t, h.1, h.2.1, h.2.2.1, h.2.2.2.1, h.2.2.2.2.le (by omega)⟩
theorem tN_nI {j : Nat} (h : j < 2 ^ 31) : tN (nI j) = j := nI_clamp h
theorem okA_mono {ns nk ns2 nk2 : Nat} {Z Z2 : Sg} {e : E5} (h : okA ns nk Z e) (h1 : ns ≤ ns2) (h2 : nk ≤ nk2) (h3 : ∀ s c, s < ns → c < nk → Z 6 s c ≠ 0 → Z2 6 s c ≠ 0) : okA ns2 nk2 Z2 e := by
  obtain ⟨s, k, a1, a2, a3, a4, a5⟩ := h
  refine ⟨s, k, by omega, by omega, a3, a4, ?_⟩
  rcases a5 with b | ⟨b1, c, c1, c2, c3⟩ | ⟨b1, c, c1, c2, c3⟩
  · exact Or.inl b
  · exact Or.inr (Or.inl ⟨b1, c, c1, by omega, c3⟩)
  · exact Or.inr (Or.inr ⟨b1, c, by omega, c2, h3 s c a1 c1 c3⟩)
theorem okU_mono {ns nk ns2 nk2 tau : Nat} {Z Z2 : Sg} {e : E5} (h : okU ns nk Z tau e) (h1 : ns ≤ ns2) (h2 : nk ≤ nk2) (h3 : ∀ k, k < nk → Z2 2 0 k = Z 2 0 k) : okU ns2 nk2 Z2 tau e := by
  obtain ⟨s, k, t, a1, a2, a3, a4, a5, a6, a7, a8⟩ := h
  refine ⟨s, k, t, by omega, by omega, a3, a4, a5, a6, a7, ?_⟩
  rcases a8 with b | ⟨b, b1 | ⟨b1, c, c1, c2⟩⟩
  · exact Or.inl b
  · exact Or.inr ⟨b, Or.inl b1⟩
  · exact Or.inr ⟨b, Or.inr ⟨b1, c, by omega, by rw [h3 k a2]; exact c2⟩⟩
theorem Dv_mono {ns nk ns2 nk2 tau : Nat} {Z Z2 : Sg} {d : Dy} (h : Dv ns nk Z tau d) (h1 : ns ≤ ns2) (h2 : nk ≤ nk2) (h3 : ∀ s c, s < ns → c < nk → Z 6 s c ≠ 0 → Z2 6 s c ≠ 0) (h4 : ∀ k, k < nk → Z2 2 0 k = Z 2 0 k) : Dv ns2 nk2 Z2 tau d := ⟨fun e he => okA_mono (h.1 e he) h1 h2 h3, fun e he => okU_mono (h.2 e he) h1 h2 h4⟩
theorem kind_keeps {ns nk t B : Nat} {Z : Sg} {d : Dy} (h : Iv ns nk t B Z d) (p b c : Int32) : Iw (B + 200000) (kindP nk Z d p b c).2.1 (kindP nk Z d p b c).2.2 := by
  obtain ⟨hz, hp, hd, hph, hG⟩ := id h
  have hn := hz.v.n8
  have hk8 := hz.v.k8
  unfold kindP
  split
  · exact h.same
  · rename_i q1
    split
    · exact h.same
    · rename_i q2
      split
      · exact h.same
      · rename_i q3
        have q1a : outB p 1 1000 = false := by cases e1 : outB p 1 1000 <;> simp_all
        have q1b : outB b 1 50 = false := by cases e1 : outB b 1 50 <;> simp_all
        obtain ⟨p0, p1, p2, p3⟩ := outB_in (a := 1) (b := 1000) q1a rfl rfl (by decide) (by decide)
        obtain ⟨b0, b1, b2, b3⟩ := outB_in (a := 1) (b := 50) q1b rfl rfl (by decide) (by decide)
        have hc : c = -1 ∨ ∃ c0, c0 < nk ∧ c = nI c0 := by
          by_cases e1 : c = -1
          · exact Or.inl e1
          · right
            have e2 : isIn c nk = true := by
              cases e3 : isIn c nk with
              | true => rfl
              | false => exact absurd (show (!decide (c = -1) && !isIn c nk) = true by rw [e3, decide_eq_false e1]; rfl) q2
            exact isIn_of (by omega) e2
        generalize hZ2 : su (su (su (su (su Z 0 0 nk p) 1 0 nk b) 2 0 nk c) 14 0 0 (nI (nk + 1))) 6 0 nk 10 = Z2
        show Iw (B + 200000) Z2 d
        have e0 : ∀ k, Z2 0 0 k = if k = nk then p else Z 0 0 k := fun k => by rw [← hZ2, su_ne _ _ _ _ (show 0 ≠ 6 by decide), su_ne _ _ _ _ (show 0 ≠ 14 by decide), su_ne _ _ _ _ (show 0 ≠ 2 by decide), su_ne _ _ _ _ (show 0 ≠ 1 by decide), su_at]; simp
        have e1 : ∀ k, Z2 1 0 k = if k = nk then b else Z 1 0 k := fun k => by rw [← hZ2, su_ne _ _ _ _ (show 1 ≠ 6 by decide), su_ne _ _ _ _ (show 1 ≠ 14 by decide), su_ne _ _ _ _ (show 1 ≠ 2 by decide), su_at]; simp; rw [su_ne _ _ _ _ (show 1 ≠ 0 by decide)]
        have e2 : ∀ k, Z2 2 0 k = if k = nk then c else Z 2 0 k := fun k => by rw [← hZ2, su_ne _ _ _ _ (show 2 ≠ 6 by decide), su_ne _ _ _ _ (show 2 ≠ 14 by decide), su_at]; simp; rw [su_ne _ _ _ _ (show 2 ≠ 1 by decide), su_ne _ _ _ _ (show 2 ≠ 0 by decide)]
        have e6 : ∀ s k, Z2 6 s k = if s = 0 ∧ k = nk then 10 else Z 6 s k := fun s k => by rw [← hZ2, su_at, su_ne _ _ _ _ (show 6 ≠ 14 by decide), su_ne _ _ _ _ (show 6 ≠ 2 by decide), su_ne _ _ _ _ (show 6 ≠ 1 by decide), su_ne _ _ _ _ (show 6 ≠ 0 by decide)]
        have e3 : Z2 3 = Z 3 := by rw [← hZ2]; rfl
        have e4 : Z2 4 = Z 4 := by rw [← hZ2]; rfl
        have e14 : ∀ k, Z2 14 0 k = if k = 0 then nI (nk + 1) else Z 14 0 k := fun k => by rw [← hZ2, su_ne _ _ _ _ (show 14 ≠ 6 by decide), su_at]; simp; rw [su_ne _ _ _ _ (show 14 ≠ 2 by decide), su_ne _ _ _ _ (show 14 ≠ 1 by decide), su_ne _ _ _ _ (show 14 ≠ 0 by decide)]
        have eu : ∀ x, upx Z2 x = upx Z x := fun x => by unfold upx; rw [e3]
        refine ⟨ns, nk + 1, t, ⟨⟨hz.v.n1, hn, by omega, by rw [e14, if_pos rfl], by rw [e14, if_neg (by decide)]; exact hz.v.ns, fun x h1 h2 => ?_, fun k hk => ?_⟩, fun x h1 h2 => by rw [e4]; exact hz.way h1 h2, fun s k h1 h2 => ?_, fun k hk => ?_, fun k hk => ?_, hz.t5, by rw [e14, if_neg (by decide)]; exact hz.tt⟩, fun k hk => ?_, Dv_mono hd (Nat.le_refl _) (Nat.le_succ _) (fun s c0 h1 h2 h3 => ?_) (fun k hk => ?_), hph, hG.le (by omega)⟩
        · rw [eu, e3]
          exact ⟨hz.v.up h1 h2, hz.v.lt h1 h2⟩
        · rw [e6]
          by_cases q : k = nk
          · rw [if_pos ⟨rfl, q⟩]; decide
          · rw [if_neg (fun r => q r.2)]
            exact hz.v.m0 (by omega)
        · rw [e6]
          by_cases q : s = 0 ∧ k = nk
          · rw [if_pos q]
            exact ⟨10, by omega, rfl⟩
          · rw [if_neg q]
            exact hz.mend h1 h2
        · rw [e2]
          by_cases q : k = nk
          · rw [if_pos q]
            rcases hc with r | ⟨c0, r1, r2⟩
            · exact Or.inl r
            · exact Or.inr ⟨c0, by omega, r2⟩
          · rw [if_neg q]
            rcases hz.core (show k < nk by omega) with r | ⟨c0, r1, r2⟩
            · exact Or.inl r
            · exact Or.inr ⟨c0, by omega, r2⟩
        · rw [e1]
          by_cases q : k = nk
          · rw [if_pos q]
            exact ⟨b0, b1, b2, b3⟩
          · rw [if_neg q]
            exact hz.buy (by omega)
        · rw [e0]
          by_cases q : k = nk
          · rw [if_pos q]
            exact ⟨p0, p1, p2, p3⟩
          · rw [if_neg q]
            exact hp k (by omega)
        · rw [e6]
          by_cases q : s = 0 ∧ c0 = nk
          · omega
          · rw [if_neg q]
            exact h3
        · rw [e2, if_neg (by omega)]
theorem shelf_keeps {ns nk t B : Nat} {Z : Sg} {d : Dy} (h : Iv ns nk t B Z d) (u w : Int32) : Iw (B + 200000) (shelfP ns Z d u w).2.1 (shelfP ns Z d u w).2.2 := by
  obtain ⟨hz, hp, hd, hph, hG⟩ := id h
  have hn := hz.v.n8
  have hk8 := hz.v.k8
  unfold shelfP
  split
  · exact h.same
  · rename_i q1
    split
    · exact h.same
    · rename_i q2
      split
      · exact h.same
      · rename_i q3
        obtain ⟨u0, u1, u2⟩ := isIn_of (n := ns) (by omega) (by cases e : isIn u ns <;> simp_all)
        obtain ⟨w0, w1, w2, w3⟩ := outB_in (lo := 1) (hi := 20) (a := 1) (b := 20) (n := w) (by cases e : outB w 1 20 <;> simp_all) rfl rfl (by decide) (by decide)
        generalize hZ2 : su (su (su Z 3 0 ns u) 4 0 ns w) 14 0 1 (nI (ns + 1)) = Z2
        show Iw (B + 200000) Z2 d
        have e3 : ∀ x, Z2 3 0 x = if x = ns then u else Z 3 0 x := fun x => by rw [← hZ2, su_ne _ _ _ _ (show 3 ≠ 14 by decide), su_ne _ _ _ _ (show 3 ≠ 4 by decide), su_at]; simp
        have e4 : ∀ x, Z2 4 0 x = if x = ns then w else Z 4 0 x := fun x => by rw [← hZ2, su_ne _ _ _ _ (show 4 ≠ 14 by decide), su_at]; simp; rw [su_ne _ _ _ _ (show 4 ≠ 3 by decide)]
        have e14 : ∀ k, Z2 14 0 k = if k = 1 then nI (ns + 1) else Z 14 0 k := fun k => by rw [← hZ2, su_at]; simp; rw [su_ne _ _ _ _ (show 14 ≠ 4 by decide), su_ne _ _ _ _ (show 14 ≠ 3 by decide)]
        have e6 : Z2 6 = Z 6 := by rw [← hZ2]; rfl
        have e2 : Z2 2 = Z 2 := by rw [← hZ2]; rfl
        have e1 : Z2 1 = Z 1 := by rw [← hZ2]; rfl
        have e0 : Z2 0 = Z 0 := by rw [← hZ2]; rfl
        have eu : ∀ x, upx Z2 x = if x = ns then u0 else upx Z x := fun x => by
          unfold upx
          rw [e3]
          by_cases q : x = ns
          · rw [if_pos q, if_pos q, u2, nI_clamp (by omega)]
          · rw [if_neg q, if_neg q]
        refine ⟨ns + 1, nk, t, ⟨⟨by omega, by omega, hk8, by rw [e14, if_neg (by decide)]; exact hz.v.nk, by rw [e14, if_pos rfl], fun x h1 h2 => ?_, fun k hk => by rw [e6]; exact hz.v.m0 hk⟩, fun x h1 h2 => ?_, fun s k h1 h2 => by rw [e6]; exact hz.mend h1 h2, fun k hk => by rw [e2]; exact hz.core hk, fun k hk => by rw [e1]; exact hz.buy hk, hz.t5, by rw [e14, if_neg (by decide)]; exact hz.tt⟩, fun k hk => by rw [e0]; exact hp k hk, Dv_mono hd (Nat.le_succ _) (Nat.le_refl _) (fun s c0 h1 h2 h3 => by rw [e6]; exact h3) (fun k hk => by rw [e2]), hph, hG.le (by omega)⟩
        · rw [eu, e3]
          by_cases q : x = ns
          · rw [if_pos q, if_pos q]
            exact ⟨u2, by omega⟩
          · rw [if_neg q, if_neg q]
            exact ⟨hz.v.up h1 (by omega), hz.v.lt h1 (by omega)⟩
        · rw [e4]
          by_cases q : x = ns
          · rw [if_pos q]
            exact ⟨w0, w1, w2, w3⟩
          · rw [if_neg q]
            exact hz.way h1 (by omega)
theorem mend_keeps {ns nk t B : Nat} {Z : Sg} {d : Dy} (h : Iv ns nk t B Z d) (s k b : Int32) : Iw (B + 200000) (mendP ns nk Z d s k b).2.1 (mendP ns nk Z d s k b).2.2 := by
  obtain ⟨hz, hp, hd, hph, hG⟩ := id h
  have hn := hz.v.n8
  have hk8 := hz.v.k8
  unfold mendP
  split
  · exact h.same
  · rename_i q1
    split
    · exact h.same
    · rename_i q2
      split
      · exact h.same
      · rename_i q3
        have q1a : isIn s ns = true := by cases e1 : isIn s ns <;> simp_all
        have q1b : isIn k nk = true := by cases e1 : isIn k nk <;> simp_all
        obtain ⟨s0, s1, s2⟩ := isIn_of (by omega) q1a
        obtain ⟨k0, k1, k2⟩ := isIn_of (by omega) q1b
        have q2a : outB b 0 30 = false := by cases e1 : outB b 0 30 with
          | false => rfl
          | true => exact absurd (Or.inl e1) q2
        obtain ⟨b0, b1, b2, b3⟩ := outB_in (a := 0) (b := 30) q2a rfl rfl (by decide) (by decide)
        subst s2 k2
        show Iw (B + 200000) (su Z 6 (tN (nI s0)) (tN (nI k0)) b) d
        rw [tN_nI (by omega), tN_nI (by omega)]
        generalize hZ2 : su Z 6 s0 k0 b = Z2
        have e6 : ∀ x y, Z2 6 x y = if x = s0 ∧ y = k0 then b else Z 6 x y := fun x y => by rw [← hZ2, su_at]
        have e14 : Z2 14 = Z 14 := by rw [← hZ2]; rfl
        have e3 : Z2 3 = Z 3 := by rw [← hZ2]; rfl
        have e4 : Z2 4 = Z 4 := by rw [← hZ2]; rfl
        have e2 : Z2 2 = Z 2 := by rw [← hZ2]; rfl
        have e1 : Z2 1 = Z 1 := by rw [← hZ2]; rfl
        have e0 : Z2 0 = Z 0 := by rw [← hZ2]; rfl
        have eu : ∀ x, upx Z2 x = upx Z x := fun x => by unfold upx; rw [e3]
        refine ⟨ns, nk, t, ⟨⟨hz.v.n1, hn, hk8, by rw [e14]; exact hz.v.nk, by rw [e14]; exact hz.v.ns, fun x h1 h2 => by rw [eu, e3]; exact ⟨hz.v.up h1 h2, hz.v.lt h1 h2⟩, fun y hy => ?_⟩, fun x h1 h2 => by rw [e4]; exact hz.way h1 h2, fun x y h1 h2 => ?_, fun y hy => by rw [e2]; exact hz.core hy, fun y hy => by rw [e1]; exact hz.buy hy, hz.t5, by rw [e14]; exact hz.tt⟩, fun y hy => by rw [e0]; exact hp y hy, ⟨fun e he => ?_, fun e he => okU_mono (hd.2 e he) (Nat.le_refl _) (Nat.le_refl _) (fun y hy => by rw [e2])⟩, hph, hG.le (by omega)⟩
        · rw [e6]
          by_cases q : 0 = s0 ∧ y = k0
          · rw [if_pos q]
            intro hb
            exact q2 (Or.inr ⟨by rw [← q.1]; rfl, hb⟩)
          · rw [if_neg q]
            exact hz.v.m0 hy
        · rw [e6]
          by_cases q : x = s0 ∧ y = k0
          · rw [if_pos q]
            exact ⟨b0, b2, b3⟩
          · rw [if_neg q]
            exact hz.mend h1 h2
        · have hA := hd.1 e he
          obtain ⟨x, y, a1, a2, a3, a4, a5⟩ := hA
          refine ⟨x, y, a1, a2, a3, a4, ?_⟩
          rcases a5 with r | r | ⟨r, c, c1, c2, c3⟩
          · exact Or.inl r
          · exact Or.inr (Or.inl r)
          · refine Or.inr (Or.inr ⟨r, c, c1, c2, ?_⟩)
            rw [e6]
            by_cases q : x = s0 ∧ c = k0
            · rw [if_pos q]
              intro hb
              refine q3 ⟨hb, ?_⟩
              have h9 : 0 < d.2.1.countP (fitB (nI s0) (-1) 2 (nI k0)) := List.countP_pos_iff.mpr ⟨e, he, decide_eq_true ⟨Or.inr (by rw [a3, q.1]), Or.inl rfl, Or.inr r, Or.inr (by rw [c2, q.2])⟩⟩
              have h8 : d.2.1.countP (fitB (nI s0) (-1) 2 (nI k0)) ≤ d.2.1.length := List.countP_le_length
              have h7 := Ph_sz d
              have h6 : sz d = d.2.1.length + d.2.2.1.length := rfl
              show nI 0 < _
              exact (nI_ltI (by omega) (by omega)).mpr h9
            · rw [if_neg q]
              exact c3
theorem rate_keeps {ns nk t B : Nat} {Z : Sg} {d : Dy} (h : Iv ns nk t B Z d) (s k r : Int32) : Iw (B + 200000) (rateP ns nk Z d s k r).2.1 (rateP ns nk Z d s k r).2.2 := by
  obtain ⟨hz, hp, hd, hph, hG⟩ := id h
  unfold rateP
  split
  · exact h.same
  · split
    · exact h.same
    · exact ⟨ns, nk, t, ⟨hz.1, hz.2.1, hz.2.2.1, hz.2.2.2.1, hz.2.2.2.2.1, hz.2.2.2.2.2.1, hz.2.2.2.2.2.2⟩, hp, hd, hph, hG.le (by omega)⟩
theorem gd_landsN {ns nk : Nat} {Z : Sg} (hz : Zv ns nk Z) {s k : Nat} (hs : s < ns) (hk : k < nk) : ∀ (n B : Nat) (d : Dy), Gd B d → Gd (B + n) (landsN Z s k n d)
  | 0, B, d, h => h
  | n + 1, B, d, h => by
    rw [landsN]
    exact (gd_landsN hz hs hk n (B + 1) _ (gd_lands hz (d := inc d 9 k) h hs hk)).le (by omega)
theorem stock_keeps {ns nk t B : Nat} {Z : Sg} {d : Dy} (h : Iv ns nk t B Z d) (s k n : Int32) : Iw (B + 200000) (stockP ns nk Z d s k n).2.1 (stockP ns nk Z d s k n).2.2 := by
  obtain ⟨hz, hp, hd, hph, hG⟩ := id h
  have hn := hz.v.n8
  have hk8 := hz.v.k8
  unfold stockP
  split
  · exact h.same
  · rename_i q1
    split
    · exact h.same
    · rename_i q2
      split
      · exact h.same
      · have q1a : isIn s ns = true := by cases e1 : isIn s ns <;> simp_all
        have q1b : isIn k nk = true := by cases e1 : isIn k nk <;> simp_all
        obtain ⟨s0, s1, s2⟩ := isIn_of (by omega) q1a
        obtain ⟨k0, k1, k2⟩ := isIn_of (by omega) q1b
        obtain ⟨n0, n1, n2, n3⟩ := outB_in (lo := 1) (hi := 9) (a := 1) (b := 9) (n := n) (by cases e : outB n 1 9 <;> simp_all) rfl rfl (by decide) (by decide)
        subst s2 k2 n3
        show Iw (B + 200000) Z (landsN Z (tN (nI s0)) (tN (nI k0)) (tN (nI n0)) d)
        rw [tN_nI (by omega), tN_nI (by omega), tN_nI (by omega)]
        obtain ⟨r1, r2⟩ := landsN_ok hz s0 k0 s1 k1 (Nat.le_refl _) n0 d hd
        exact ⟨ns, nk, t, hz, hp, r2, by omega, (gd_landsN hz.v s1 k1 n0 B d hG).le (by omega)⟩
theorem choose_keeps {ns nk t B : Nat} {Z : Sg} {d : Dy} (h : Iv ns nk t B Z d) : Iw (B + 200000) (chooseP ns nk Z d).2.1 (chooseP ns nk Z d).2.2 := by
  obtain ⟨hz, hp, hd, hph, hG⟩ := id h
  unfold chooseP
  cases hq : chS Z d ns nk ns with
  | none => exact h.same
  | some q =>
    obtain ⟨q1, q2⟩ := chS_in ns (Nat.le_refl _) q hq
    show Iw (B + 200000) (if 200 ≤ d.1 9 0 q.2 then ((-4 : Int32), Z, d) else (nI (8 * q.1 + q.2), Z, lands Z (inc d 9 q.2) q.1 q.2)).2.1 (if 200 ≤ d.1 9 0 q.2 then ((-4 : Int32), Z, d) else (nI (8 * q.1 + q.2), Z, lands Z (inc d 9 q.2) q.1 q.2)).2.2
    split
    · exact h.same
    · obtain ⟨r1, r2, -⟩ := lands_ok hz (inc d 9 q.2) q.1 q.2 q1 q2 (Nat.le_refl _) hd
      have r3 : Ph (inc d 9 q.2) = Ph d := rfl
      exact ⟨ns, nk, t, hz, hp, r2, by show Ph (lands Z (inc d 9 q.2) q.1 q.2) ≤ 2000; omega, (gd_lands hz.v (d := inc d 9 q.2) hG q1 q2).le (by omega)⟩
theorem gr_machine {ns nk t : Nat} {Z : Sg} (d : Dy) (s k : Nat) (hs : s < ns) (hk : k < nk) : Gr ns nk t Z 1 d (machine Z d s k) := by
  unfold machine
  split
  · exact gr_dA d _ ⟨s, k, hs, hk, rfl, rfl, Or.inl ⟨rfl, rfl⟩⟩ (show (if (0 : Int32) = 2 then 9 else 1) ≤ 1 by decide)
  · exact (Gr.rf rfl).le (by omega)
theorem gd_machine {B : Nat} {Z : Sg} {d : Dy} (h : Gd B d) {s k : Nat} (hs : s < 8) (hk : k < 8) : Gd B (machine Z d s k) := by
  unfold machine
  split
  · exact h
  · rename_i q
    exact h.dec hs hk q
theorem gr_breaks {ns nk t : Nat} {Z : Sg} (hz : Zx ns nk t Z) (d : Dy) (s k : Nat) (how : Int32) (hs : s < ns) (hk : k < nk) (hh : how = 2 ∨ how = 0 ∨ (how = 1 ∧ ∃ c, c < nk ∧ Z 2 0 k = nI c)) : Gr ns nk t Z 30 d (breaks Z d s k how) := by
  have hn := hz.v.n8
  have g1 : Gr ns nk t Z 1 d (machine Z (inc d 13 k) s k) := (gr_machine (inc d 13 k) s k hs hk).cg rfl
  unfold breaks
  by_cases q : how = 2
  · rw [if_pos q]
    obtain ⟨b, b1, b2, b3⟩ := hz.buy hk
    have g2 : Gr ns nk t Z s (machine Z (inc d 13 k) s k) (ups Z k 0 8 s (inc (machine Z (inc d 13 k) s k) 10 k)) := (gr_ups hz k 0 hk 8 s _ hs (rch_0 hz.v 8 s hs (by omega))).cg rfl
    have g3 : Gr ns nk t Z 1 (ups Z k 0 8 s (inc (machine Z (inc d 13 k) s k) 10 k)) (due Z (inc (ups Z k 0 8 s (inc (machine Z (inc d 13 k) s k) 10 k)) 9 k) 2 0 k 0 (Z 1 0 k)) := (gr_due hz _ 2 0 k 0 _ hz.v.n1 hk b3 b1 (by omega) (Or.inl (Or.inr (Or.inr rfl))) (by decide)).cg rfl
    exact ((g1.tr g2).tr g3).le (by omega)
  · rw [if_neg q]
    have g2 := gr_back hz (machine Z (inc d 13 k) s k) s k how hs hk (hh.resolve_left q)
    have g3 := gr_ups hz k (mOf Z k s) hk 8 s (back Z (machine Z (inc d 13 k) s k) s k how) hs (rch_mo hz.v hk 8 s hs)
    refine ((g1.tr g2).tr g3).le ?_
    split <;> omega
theorem gd_breaks {ns nk t B : Nat} {Z : Sg} (hz : Zx ns nk t Z) {d : Dy} (h : Gd B d) {s k : Nat} {how : Int32} (hs : s < ns) (hk : k < nk) (hh : how = 2 ∨ how = 0 ∨ (how = 1 ∧ ∃ c, c < nk ∧ Z 2 0 k = nI c)) : Gd B (breaks Z d s k how) := by
  have hn := hz.v.n8
  have hk8 := hz.v.k8
  have g1 : Gd B (machine Z (inc d 13 k) s k) := gd_machine (d := inc d 13 k) h (by omega) (by omega)
  unfold breaks
  by_cases q : how = 2
  · rw [if_pos q]
    exact gd_ups hz.v hk 8 s (inc (machine Z (inc d 13 k) s k) 10 k) hs (rch_0 hz.v 8 s hs (by omega)) g1
  · rw [if_neg q]
    exact gd_ups hz.v hk 8 s _ hs (rch_mo hz.v hk 8 s hs) (gd_back hz.v g1 hs hk (hh.resolve_left q))
theorem fails_keeps {ns nk t B : Nat} {Z : Sg} {d : Dy} (h : Iv ns nk t B Z d) (s k how : Int32) : Iw (B + 200000) (failsP ns nk Z d s k how).2.1 (failsP ns nk Z d s k how).2.2 := by
  obtain ⟨hz, hp, hd, hph, hG⟩ := id h
  have hn := hz.v.n8
  have hk8 := hz.v.k8
  unfold failsP
  split
  · exact h.same
  · rename_i q1
    split
    · exact h.same
    · rename_i q2
      split
      · exact h.same
      · rename_i q3
        split
        · exact h.same
        · rename_i q4
          have q1a : isIn s ns = true := by cases e1 : isIn s ns <;> simp_all
          have q1b : isIn k nk = true := by cases e1 : isIn k nk <;> simp_all
          obtain ⟨s0, s1, s2⟩ := isIn_of (by omega) q1a
          obtain ⟨k0, k1, k2⟩ := isIn_of (by omega) q1b
          obtain ⟨n0, n1, n2, n3⟩ := outB_in (lo := 0) (hi := 2) (a := 0) (b := 2) (n := how) (by cases e : outB how 0 2 <;> simp_all) rfl rfl (by decide) (by decide)
          subst s2 k2
          rw [tN_nI (by omega)] at q3
          show Iw (B + 200000) Z (breaks Z d (tN (nI s0)) (tN (nI k0)) how)
          rw [tN_nI (by omega), tN_nI (by omega)]
          have hh : how = 2 ∨ how = 0 ∨ (how = 1 ∧ ∃ c, c < nk ∧ Z 2 0 k0 = nI c) := by
            rcases (show n0 = 0 ∨ n0 = 1 ∨ n0 = 2 by omega) with r | r | r
            · subst r; exact Or.inr (Or.inl n3)
            · subst r
              refine Or.inr (Or.inr ⟨n3, ?_⟩)
              rcases hz.core k1 with r | r
              · exact absurd ⟨n3, r⟩ q3
              · exact r
            · subst r; exact Or.inl n3
          have g := gr_breaks hz d s0 k0 how s1 k1 hh
          have g1 := g.ph
          have g2 := smA_9 d.2.1
          have g3 := smU_9 d.2.2.1
          have g4 : Ph d = smA d.2.1 + smU d.2.2.1 := rfl
          exact ⟨ns, nk, t, hz, hp, g.dv (Nat.le_refl _) hd, by omega, (gd_breaks hz hG s1 k1 hh).le (by omega)⟩
theorem gd_doAll {ns nk t : Nat} {Z : Sg} (hz : Zx ns nk t Z) : ∀ (n B : Nat) (d : Dy), Dv ns nk Z t d → Gd B d → Gd (B + n) (doAll Z n d)
  | 0, B, d, _, h => h
  | n + 1, B, d, hd, h => by
    rw [doAll]
    split
    · exact h.le (by omega)
    · rename_i e he
      have hU := hd.2 e (List.mem_of_getElem? he)
      obtain ⟨-, h2, -⟩ := does_ok hz d _ e he (Nat.le_succ t) hd
      exact (gd_doAll hz n (B + 1) _ h2 (gd_does hz.v h hU)).le (by omega)
theorem day_keeps {ns nk t B : Nat} {Z : Sg} {d : Dy} (h : Iv ns nk t B Z d) (ht : t + 1 ≤ 5000) : Iv ns nk (t + 1) (B + 2500) (dy1 (Z, d)).1 (dy1 (Z, d)).2 := by
  obtain ⟨hz, hp, hd, hph, hG⟩ := id h
  obtain ⟨e1, r1, r2, r3⟩ := day_ok hz ht d hd
  have e2 : (dy1 (Z, d)).2 = stands (doAll (su Z 14 0 2 (nI (t + 1))) d.2.2.1.length d) := by
    show stands (doAll (su Z 14 0 2 (Z 14 0 2 + 1)) _ d) = _
    rw [hz.tt, nI_1]
  refine ⟨r1, fun k hk => by rw [e1]; exact hp k hk, r2, by omega, ?_⟩
  rw [e2]
  have h7 := Ph_sz d
  have h6 : sz d = d.2.1.length + d.2.2.1.length := rfl
  have hd2 : Dv ns nk (su Z 14 0 2 (nI (t + 1))) (t + 1) d := hd
  exact gd_stands ((gd_doAll (Zx_time hz ht) d.2.2.1.length B d hd2 hG).le (by omega))
theorem dayN_keeps {ns nk : Nat} : ∀ (n t B : Nat) (Z : Sg) (d : Dy), Iv ns nk t B Z d → t + n ≤ 5000 → Iv ns nk (t + n) (B + 2500 * n) (dyN n (Z, d)).1 (dyN n (Z, d)).2
  | 0, t, B, Z, d, h, _ => h
  | n + 1, t, B, Z, d, h, ht => by
    have h1 := dayN_keeps n (t + 1) (B + 2500) _ _ (day_keeps h (by omega)) (by omega)
    rw [show t + (n + 1) = t + 1 + n by omega, show B + 2500 * (n + 1) = B + 2500 + 2500 * n by omega]
    exact h1
theorem days_keeps {ns nk t B : Nat} {Z : Sg} {d : Dy} (h : Iv ns nk t B Z d) (n : Int32) : Iw (B + 200000) (daysP Z d n).2.1 (daysP Z d n).2.2 := by
  obtain ⟨hz, hp, hd, hph, hG⟩ := id h
  unfold daysP
  split
  · exact h.same
  · rename_i q1
    split
    · exact h.same
    · rename_i q2
      obtain ⟨n0, n1, n2, n3⟩ := outB_in (lo := 1) (hi := 60) (a := 1) (b := 60) (n := n) (by cases e : outB n 1 60 <;> simp_all) rfl rfl (by decide) (by decide)
      subst n3
      have ht := hz.t5
      rw [hz.tt, nI_add, show (5000 : Int32) = nI 5000 from rfl, nI_ltI (by omega) (by omega)] at q2
      show Iw (B + 200000) (dyN (tN (nI n0)) (Z, d)).1 (dyN (tN (nI n0)) (Z, d)).2
      rw [tN_nI (by omega)]
      have r := dayN_keeps n0 t B Z d h (by omega)
      exact ⟨ns, nk, t + n0, r.1, r.2.1, r.2.2.1, r.2.2.2.1, r.2.2.2.2.le (by omega)⟩
theorem Iv_0 : Iv 1 0 0 0 Z0 d0 := by
  refine ⟨⟨⟨Nat.le_refl _, by omega, by omega, rfl, rfl, fun x h1 h2 => by omega, fun k hk => by omega⟩, fun x h1 h2 => by omega, fun s k h1 h2 => ⟨0, by omega, rfl⟩, fun k hk => by omega, fun k hk => by omega, by omega, rfl⟩, fun k hk => by omega, ⟨fun e he => absurd he List.not_mem_nil, fun e he => absurd he List.not_mem_nil⟩, Nat.zero_le _, fun s k h1 h2 => ⟨0, Nat.le_refl _, rfl⟩⟩
