/-! the calls in pure words: the answer, what stands, what moves -/
abbrev RZD : Type := Int32 × Sg × Dy
abbrev tN (x : Int32) : Nat := x.toNatClampNeg
def kindP (nk : Nat) (Z : Sg) (d : Dy) (p b c : Int32) : RZD := if (outB p 1 1000 || outB b 1 50) = true then (-2, Z, d) else if (!decide (c = -1) && !isIn c nk) = true then (-1, Z, d) else if 8 ≤ nk then (-4, Z, d) else (nI nk, su (su (su (su (su Z 0 0 nk p) 1 0 nk b) 2 0 nk c) 14 0 0 (nI (nk + 1))) 6 0 nk 10, d)
def shelfP (ns : Nat) (Z : Sg) (d : Dy) (up way : Int32) : RZD := if isIn up ns = false then (-1, Z, d) else if outB way 1 20 = true then (-2, Z, d) else if 8 ≤ ns then (-4, Z, d) else (nI ns, su (su (su Z 3 0 ns up) 4 0 ns way) 14 0 1 (nI (ns + 1)), d)
def mendP (ns nk : Nat) (Z : Sg) (d : Dy) (s k b : Int32) : RZD := if (isIn s ns && isIn k nk) = false then (-1, Z, d) else if outB b 0 30 = true ∨ (s = 0 ∧ b = 0) then (-2, Z, d) else if b = 0 ∧ 0 < nI (d.2.1.countP (fitB s (-1) 2 k)) then (-3, Z, d) else (Z 6 (tN s) (tN k), su Z 6 (tN s) (tN k) b, d)
def rateP (ns nk : Nat) (Z : Sg) (d : Dy) (s k r : Int32) : RZD := if (isIn s ns && isIn k nk) = false then (-1, Z, d) else if outB r 0 10000 = true then (-2, Z, d) else (Z 8 (tN s) (tN k), su Z 8 (tN s) (tN k) r, d)
def stockP (ns nk : Nat) (Z : Sg) (d : Dy) (s k n : Int32) : RZD := if (isIn s ns && isIn k nk) = false then (-1, Z, d) else if outB n 1 9 = true then (-2, Z, d) else if 200 < d.1 9 0 (tN k) + n then (-4, Z, d) else ((landsN Z (tN s) (tN k) (tN n) d).1 7 (tN s) (tN k), Z, landsN Z (tN s) (tN k) (tN n) d)
def failsP (ns nk : Nat) (Z : Sg) (d : Dy) (s k how : Int32) : RZD := if (isIn s ns && isIn k nk) = false then (-1, Z, d) else if outB how 0 2 = true then (-2, Z, d) else if how = 1 ∧ Z 2 0 (tN k) = -1 then (-3, Z, d) else if 100 < d.2.1.length ∨ 100 < d.2.2.1.length then (-4, Z, d) else (if d.1 7 (tN s) (tN k) = 0 then 0 else 1, Z, breaks Z d (tN s) (tN k) how)
def dy1 (q : Sg × Dy) : Sg × Dy := (su q.1 14 0 2 (q.1 14 0 2 + 1), stands (doAll (su q.1 14 0 2 (q.1 14 0 2 + 1)) q.2.2.2.1.length q.2))
def dyN : Nat → Sg × Dy → Sg × Dy
  | 0, q => q
  | n + 1, q => dyN n (dy1 q)
def daysP (Z : Sg) (d : Dy) (n : Int32) : RZD := if outB n 1 60 = true then (-2, Z, d) else if 5000 < Z 14 0 2 + n then (-4, Z, d) else ((dyN (tN n) (Z, d)).1 14 0 2, (dyN (tN n) (Z, d)).1, (dyN (tN n) (Z, d)).2)
theorem cpl_stands (d : Dy) : cp (stands d) = cp d := rfl
theorem cpl_dy1 (q : Sg × Dy) : cp q.2 ≤ cp (dy1 q).2 := cpl_doAll _ _ _
theorem cpl_dyN : ∀ (n : Nat) (q : Sg × Dy), cp q.2 ≤ cp (dyN n q).2
  | 0, q => Nat.le_refl _
  | n + 1, q => Nat.le_trans (cpl_dy1 q) (cpl_dyN n (dy1 q))
theorem cpl_landsN (Z : Sg) (s k : Nat) : ∀ (n : Nat) (d : Dy), cp d ≤ cp (landsN Z s k n d)
  | 0, d => Nat.le_refl _
  | n + 1, d => Nat.le_trans (cpl_lands Z (inc d 9 k) s k) (cpl_landsN Z s k n _)
theorem mach_comm (Z : Sg) (d : Dy) (s k : Nat) : machine Z (inc d 13 k) s k = inc (machine Z d s k) 13 k := by
  unfold machine
  by_cases h : d.1 7 s k = 0
  · rw [if_pos h, if_pos (show (inc d 13 k).1 7 s k = 0 from h)]
    rfl
  · rw [if_neg h, if_neg (show ¬ (inc d 13 k).1 7 s k = 0 from h)]
    refine Prod.ext ?_ rfl
    show su (su (su d.1 13 0 k (d.1 13 0 k + 1)) 7 s k (d.1 7 s k - 1)) 11 0 k (d.1 11 0 k + 1) = su (su (su d.1 7 s k (d.1 7 s k - 1)) 11 0 k (d.1 11 0 k + 1)) 13 0 k (d.1 13 0 k + 1)
    rw [su_comm d.1 (show 13 ≠ 7 by decide), su_comm (su d.1 7 s k (d.1 7 s k - 1)) (show 13 ≠ 11 by decide)]
theorem landsN_ok {ns nk t tau : Nat} {Z : Sg} (hz : Zx ns nk t Z) (s k : Nat) (hs : s < ns) (hk : k < nk) (ht : tau ≤ t + 1) : ∀ (n : Nat) (d : Dy), Dv ns nk Z tau d → Ph (landsN Z s k n d) ≤ Ph d ∧ Dv ns nk Z tau (landsN Z s k n d)
  | 0, d, hd => ⟨Nat.le_refl _, hd⟩
  | n + 1, d, hd => by
    obtain ⟨h1, h2, -⟩ := lands_ok hz (inc d 9 k) s k hs hk ht hd
    obtain ⟨h3, h4⟩ := landsN_ok hz s k hs hk ht n _ h2
    have h5 : Ph (inc d 9 k) = Ph d := rfl
    exact ⟨by rw [landsN]; omega, h4⟩
theorem doAll_ok {ns nk t : Nat} {Z : Sg} (hz : Zx ns nk t Z) : ∀ (n : Nat) (d : Dy), Dv ns nk Z t d → Ph (doAll Z n d) ≤ Ph d ∧ Dv ns nk Z t (doAll Z n d)
  | 0, d, hd => ⟨Nat.le_refl _, hd⟩
  | n + 1, d, hd => by
    rw [doAll]
    split
    · exact ⟨Nat.le_refl _, hd⟩
    · rename_i e he
      obtain ⟨h1, h2, -⟩ := does_ok hz d _ e he (Nat.le_succ t) hd
      obtain ⟨h3, h4⟩ := doAll_ok hz n _ h2
      exact ⟨by omega, h4⟩
theorem cnt_era (p : E5 → Bool) : ∀ (L : List E5) (i : Nat) (e : E5), L[i]? = some e → p e = true → (L.eraseIdx i).countP p + 1 = L.countP p
  | [], i, e, h, _ => by simp at h
  | x :: L, 0, e, h, hp => by
    cases h
    rw [List.eraseIdx_cons_zero, List.countP_cons_of_pos hp]
  | x :: L, i + 1, e, h, hp => by
    have h1 := cnt_era p L i e (by simpa using h) hp
    rw [List.eraseIdx_cons_succ, List.countP_cons, List.countP_cons]
    omega
theorem doAll_end {ns nk t : Nat} {Z : Sg} (hz : Zx ns nk t Z) : ∀ (n : Nat) (d : Dy), Dv ns nk Z t d → d.2.2.1.countP (fun e => decide (col 3 e = Z 14 0 2)) ≤ n → ∀ e ∈ (doAll Z n d).2.2.1, col 3 e ≠ Z 14 0 2
  | 0, d, hd, hc => fun e he q => by
    have h1 : 0 < d.2.2.1.countP (fun e => decide (col 3 e = Z 14 0 2)) := List.countP_pos_iff.mpr ⟨e, he, decide_eq_true q⟩
    omega
  | n + 1, d, hd, hc => by
    rw [doAll]
    split
    · rename_i hn
      intro e he q
      obtain ⟨i, hi⟩ := List.getElem?_of_mem he
      have h1 : d.2.2.1.findIdx (fun e => decide (col 3 e = Z 14 0 2)) < d.2.2.1.length := List.findIdx_lt_length.mpr ⟨e, he, decide_eq_true q⟩
      have h2 := List.getElem?_eq_none_iff.mp hn
      unfold fstT at h2
      omega
    · rename_i e he
      obtain ⟨h1, h2, NU, h3, h4⟩ := does_ok hz d _ e he (Nat.le_succ t) hd
      refine doAll_end hz n _ h2 ?_
      obtain ⟨g1, g2⟩ := List.getElem?_eq_some_iff.mp he
      have g3 : decide (col 3 (d.2.2.1[fstT (Z 14 0 2) d.2.2.1]'g1) = Z 14 0 2) = true := List.findIdx_getElem (w := g1)
      rw [g2] at g3
      have h5 := cnt_era (fun e => decide (col 3 e = Z 14 0 2)) d.2.2.1 _ e he g3
      have h6 : NU.countP (fun e => decide (col 3 e = Z 14 0 2)) = 0 := List.countP_eq_zero.mpr (fun x hx q => late_ne hz (h4 x hx) (of_decide_eq_true q))
      rw [h3, List.countP_append, h6]
      omega
theorem Zx_time {ns nk t t2 : Nat} {Z : Sg} (hz : Zx ns nk t Z) (ht : t2 ≤ 5000) : Zx ns nk t2 (su Z 14 0 2 (nI t2)) := ⟨hz.1, hz.2.1, hz.2.2.1, hz.2.2.2.1, hz.2.2.2.2.1, ht, su_0 Z 14 0 2 _⟩
theorem day_ok {ns nk t : Nat} {Z : Sg} (hz : Zx ns nk t Z) (ht : t + 1 ≤ 5000) (d : Dy) (hd : Dv ns nk Z (t + 1) d) : (dy1 (Z, d)).1 = su Z 14 0 2 (nI (t + 1)) ∧ Zx ns nk (t + 1) (dy1 (Z, d)).1 ∧ Dv ns nk (dy1 (Z, d)).1 (t + 2) (dy1 (Z, d)).2 ∧ Ph (dy1 (Z, d)).2 ≤ Ph d := by
  have e1 : (dy1 (Z, d)).1 = su Z 14 0 2 (nI (t + 1)) := by
    show su Z 14 0 2 (Z 14 0 2 + 1) = _
    rw [hz.tt, nI_1]
  have hz2 : Zx ns nk (t + 1) (su Z 14 0 2 (nI (t + 1))) := Zx_time hz ht
  have e2 : (dy1 (Z, d)).2 = stands (doAll (su Z 14 0 2 (nI (t + 1))) d.2.2.1.length d) := by
    show stands (doAll (su Z 14 0 2 (Z 14 0 2 + 1)) _ d) = _
    rw [hz.tt, nI_1]
  have hd2 : Dv ns nk (su Z 14 0 2 (nI (t + 1))) (t + 1) d := hd
  obtain ⟨h1, h2⟩ := doAll_ok hz2 d.2.2.1.length d hd2
  have h3 := doAll_end hz2 d.2.2.1.length d hd2 (List.countP_le_length)
  refine ⟨e1, by rw [e1]; exact hz2, ?_, by rw [e2]; exact h1⟩
  rw [e1, e2]
  refine ⟨h2.1, fun e he => ?_⟩
  obtain ⟨s, k, t2, a1, a2, a3, a4, a5, a6, a7⟩ := h2.2 e he
  have h4 := h3 e he
  rw [hz2.tt, a5] at h4
  refine ⟨s, k, t2, a1, a2, a3, a4, a5, ?_, a7⟩
  rcases Nat.lt_or_ge (t + 1) t2 with q | q
  · exact q
  · exact absurd (show nI t2 = nI (t + 1) by rw [show t2 = t + 1 by omega]) h4
