/-! entries, lines, and the class Line's reading methods -/
abbrev E5 : Type := Int32 × Int32 × Int32 × Int32 × Int32
def col (j : Nat) (e : E5) : Int32 := match j with
  | 0 => e.1
  | 1 => e.2.1
  | 2 => e.2.2.1
  | 3 => e.2.2.2.1
  | _ => e.2.2.2.2
/-- the row f of cap ints holds the entries of L, five ints each -/
def Ln (L : List E5) (cap : Nat) (f : Nat → Int32) : Prop := 5 * L.length ≤ cap ∧ cap < 262144 ∧ ∀ (i : Nat) (e : E5), L[i]? = some e → ∀ j, j < 5 → f (5 * i + j) = col j e
theorem Ln.lt {L : List E5} {cap : Nat} {f : Nat → Int32} (h : Ln L cap f) {i : Nat} {e : E5} (hi : L[i]? = some e) {j : Nat} (hj : j < 5) : 5 * i + j < cap := by
  have h1 := (List.getElem?_eq_some_iff.mp hi).1
  have h2 := h.1
  omega
theorem Ln.ix {L : List E5} {cap : Nat} {f : Nat → Int32} (h : Ln L cap f) {i : Nat} {e : E5} (hi : L[i]? = some e) {j : Nat} (hj : j < 5) : vp_in (nI (5 * i + j)) cap := vp_in_nI (h.lt hi hj) (by have := h.2.1; omega)
theorem Ln.rd {L : List E5} {cap : Nat} {f : Nat → Int32} (h : Ln L cap f) {i : Nat} {e : E5} (hi : L[i]? = some e) {j : Nat} (hj : j < 5) : f (nI (5 * i + j)).toNatClampNeg = col j e := by
  have h1 := h.lt hi hj
  have h2 := h.2.1
  rw [nI_clamp (by omega)]
  exact h.2.2 i e hi j hj
theorem nI_m5 (i : Nat) : nI i * 5 = nI (5 * i) := by
  rw [show (5 : Int32) = nI 5 from rfl, pk_mul, Nat.mul_comm]
theorem nI_a (i j : Nat) {v : Int32} (hv : v = nI j) : nI i + v = nI (i + j) := by rw [hv, nI_add]
def fitB (s k so mo : Int32) (e : E5) : Bool := decide ((s = -1 ∨ col 0 e = s) ∧ (k = -1 ∨ col 1 e = k) ∧ (so = -1 ∨ col 2 e = so) ∧ (mo = -1 ∨ col 4 e = mo))
theorem fitB_t {s k so mo : Int32} {e : E5} (h0 : s = -1 ∨ col 0 e = s) (h1 : k = -1 ∨ col 1 e = k) (h2 : so = -1 ∨ col 2 e = so) (h3 : mo = -1 ∨ col 4 e = mo) : fitB s k so mo e = true := decide_eq_true ⟨h0, h1, h2, h3⟩
theorem fitB_0 {s k so mo : Int32} {e : E5} (h0 : ¬ s = -1) (h1 : ¬ col 0 e = s) : fitB s k so mo e = false := decide_eq_false (fun h => h.1.elim h0 h1)
theorem fitB_1 {s k so mo : Int32} {e : E5} (h0 : ¬ k = -1) (h1 : ¬ col 1 e = k) : fitB s k so mo e = false := decide_eq_false (fun h => h.2.1.elim h0 h1)
theorem fitB_2 {s k so mo : Int32} {e : E5} (h0 : ¬ so = -1) (h1 : ¬ col 2 e = so) : fitB s k so mo e = false := decide_eq_false (fun h => h.2.2.1.elim h0 h1)
theorem fitB_3 {s k so mo : Int32} {e : E5} (h0 : ¬ mo = -1) (h1 : ¬ col 4 e = mo) : fitB s k so mo e = false := decide_eq_false (fun h => h.2.2.2.elim h0 h1)
/-- the two cells of a line -/
abbrev lnw (cI : ClassId) (b : Nat → Nat) (n : Int32) (cap : Nat) (f : Nat → Int32) : va_W := [(b 0, .inr (1, [.ref (b 1), .int n])), (b 1, .inl (cI, cap, .inl f))]

theorem iX1_fits_1 : ∀ w ∈ wsX10, w ∈ wsX1_fits := by decide +kernel
theorem fX1_fits_11 : Cond.fieldLink RX1 11 "SpareShelves$Line" "cells" "[I" ∈ wsX1_fits := by decide +kernel
set_option maxHeartbeats 4000000 in
set_option maxRecDepth 100000 in
theorem c_fits (l : Launch) (D : va_G) (cI cO : ClassId) (b : Nat → Nat) (n : Int32) (cap : Nat) (f : Nat → Int32) (L : List E5) (hL : Ln L cap f) (i : Nat) (e : E5) (hi : L[i]? = some e) (s k so mo : Int32) : CR l yX1_fits wsX1_fits 0 0 D cI cO [.ref (b 0), .int (nI i), .int s, .int k, .int so, .int mo] (lnw cI b n cap f) (fun r => r = if fitB s k so mo e then 1 else 0) := by
  refine CR.of (cc := cX1_fits) (maxL := 7) (rt := .boolean) (by decide) rfl (Nat.le_of_ble_eq_true rfl) ?_
  intro C hgL hgD h hret
  have z : fitB s k so mo e = false → GG C 7 (lnw cI b n cap f) 0 0 85 [(0, .ref (b 0)), (1, .int (nI i)), (2, .int s), (3, .int k), (4, .int so), (5, .int mo), (6, .int (nI (5 * i)))] [] := by
    intro hz
    refine g_iconst h (pc := 85) (v := 0) dX1_fits_85 (by decide) ?_
    exact hret 0 dX1_fits_86 (by decide) (by rw [hz]; rfl)
  have s5 : fitB s k so mo e = true → GG C 7 (lnw cI b n cap f) 0 0 81 [(0, .ref (b 0)), (1, .int (nI i)), (2, .int s), (3, .int k), (4, .int so), (5, .int mo), (6, .int (nI (5 * i)))] [] := by
    intro hz
    refine g_iconst h (pc := 81) (v := 1) dX1_fits_81 (by decide) ?_
    refine g_goto h (pc := 82) (tgt := 86) dX1_fits_82 (by decide) ?_
    exact hret 1 dX1_fits_86 (by decide) (by rw [hz]; rfl)
  have s3 : s = -1 ∨ col 0 e = s → k = -1 ∨ col 1 e = k → so = -1 ∨ col 2 e = so → GG C 7 (lnw cI b n cap f) 0 0 61 [(0, .ref (b 0)), (1, .int (nI i)), (2, .int s), (3, .int k), (4, .int so), (5, .int mo), (6, .int (nI (5 * i)))] [] := by
    intro h0 h1 h2
    refine g_iload h (pc := 61) dX1_fits_61 5 rfl ?_
    refine g_iconst h (pc := 63) (v := (-1)) dX1_fits_63 (by decide) ?_
    refine g_icmp_eq h (pc := 64) (tgt := 81) dX1_fits_64 (by decide) (fun c1 => ?_) (fun c1 => ?_)
    · exact s5 (fitB_t h0 h1 h2 (Or.inl c1))
    · refine g_aload_n h (pc := 67) dX1_fits_67 0 rfl ?_
      refine g_get h (pc := 68) dX1_fits_68 iX1_fits_1 0 rfl rfl 0 (by decide) fX1_fits_11 rfl ?_
      refine g_iload h (pc := 71) dX1_fits_71 6 rfl ?_
      refine g_iconst h (pc := 73) (v := 4) dX1_fits_73 (by decide) ?_
      refine g_iadd h (pc := 74) dX1_fits_74  ?_
      refine g_topi (nI_a (5 * i) 4 rfl) ?_
      refine g_iald h (pc := 75) (v := col 4 e) dX1_fits_75 1 rfl (hL.ix hi (by decide)) (hL.rd hi (by decide)) ?_
      refine g_iload h (pc := 76) dX1_fits_76 5 rfl ?_
      refine g_icmp_ne h (pc := 78) (tgt := 85) dX1_fits_78 (by decide) (fun c2 => ?_) (fun c2 => ?_)
      · exact z (fitB_3 c1 c2)
      · exact s5 (fitB_t h0 h1 h2 (Or.inr c2))
  have s2 : s = -1 ∨ col 0 e = s → k = -1 ∨ col 1 e = k → GG C 7 (lnw cI b n cap f) 0 0 41 [(0, .ref (b 0)), (1, .int (nI i)), (2, .int s), (3, .int k), (4, .int so), (5, .int mo), (6, .int (nI (5 * i)))] [] := by
    intro h0 h1
    refine g_iload h (pc := 41) dX1_fits_41 4 rfl ?_
    refine g_iconst h (pc := 43) (v := (-1)) dX1_fits_43 (by decide) ?_
    refine g_icmp_eq h (pc := 44) (tgt := 61) dX1_fits_44 (by decide) (fun c1 => ?_) (fun c1 => ?_)
    · exact s3 h0 h1 (Or.inl c1)
    · refine g_aload_n h (pc := 47) dX1_fits_47 0 rfl ?_
      refine g_get h (pc := 48) dX1_fits_48 iX1_fits_1 0 rfl rfl 0 (by decide) fX1_fits_11 rfl ?_
      refine g_iload h (pc := 51) dX1_fits_51 6 rfl ?_
      refine g_iconst h (pc := 53) (v := 2) dX1_fits_53 (by decide) ?_
      refine g_iadd h (pc := 54) dX1_fits_54  ?_
      refine g_topi (nI_a (5 * i) 2 rfl) ?_
      refine g_iald h (pc := 55) (v := col 2 e) dX1_fits_55 1 rfl (hL.ix hi (by decide)) (hL.rd hi (by decide)) ?_
      refine g_iload h (pc := 56) dX1_fits_56 4 rfl ?_
      refine g_icmp_ne h (pc := 58) (tgt := 85) dX1_fits_58 (by decide) (fun c2 => ?_) (fun c2 => ?_)
      · exact z (fitB_2 c1 c2)
      · exact s3 h0 h1 (Or.inr c2)
  have s1 : s = -1 ∨ col 0 e = s → GG C 7 (lnw cI b n cap f) 0 0 23 [(0, .ref (b 0)), (1, .int (nI i)), (2, .int s), (3, .int k), (4, .int so), (5, .int mo), (6, .int (nI (5 * i)))] [] := by
    intro h0
    refine g_iload_n h (pc := 23) dX1_fits_23 3 rfl ?_
    refine g_iconst h (pc := 24) (v := (-1)) dX1_fits_24 (by decide) ?_
    refine g_icmp_eq h (pc := 25) (tgt := 41) dX1_fits_25 (by decide) (fun c1 => ?_) (fun c1 => ?_)
    · exact s2 h0 (Or.inl c1)
    · refine g_aload_n h (pc := 28) dX1_fits_28 0 rfl ?_
      refine g_get h (pc := 29) dX1_fits_29 iX1_fits_1 0 rfl rfl 0 (by decide) fX1_fits_11 rfl ?_
      refine g_iload h (pc := 32) dX1_fits_32 6 rfl ?_
      refine g_iconst h (pc := 34) (v := 1) dX1_fits_34 (by decide) ?_
      refine g_iadd h (pc := 35) dX1_fits_35  ?_
      refine g_topi (nI_a (5 * i) 1 rfl) ?_
      refine g_iald h (pc := 36) (v := col 1 e) dX1_fits_36 1 rfl (hL.ix hi (by decide)) (hL.rd hi (by decide)) ?_
      refine g_iload_n h (pc := 37) dX1_fits_37 3 rfl ?_
      refine g_icmp_ne h (pc := 38) (tgt := 85) dX1_fits_38 (by decide) (fun c2 => ?_) (fun c2 => ?_)
      · exact z (fitB_1 c1 c2)
      · exact s2 h0 (Or.inr c2)
  have s0 : GG C 7 (lnw cI b n cap f) 0 0 5 [(0, .ref (b 0)), (1, .int (nI i)), (2, .int s), (3, .int k), (4, .int so), (5, .int mo), (6, .int (nI (5 * i)))] [] := by
    refine g_iload_n h (pc := 5) dX1_fits_5 2 rfl ?_
    refine g_iconst h (pc := 6) (v := (-1)) dX1_fits_6 (by decide) ?_
    refine g_icmp_eq h (pc := 7) (tgt := 23) dX1_fits_7 (by decide) (fun c1 => ?_) (fun c1 => ?_)
    · exact s1  (Or.inl c1)
    · refine g_aload_n h (pc := 10) dX1_fits_10 0 rfl ?_
      refine g_get h (pc := 11) dX1_fits_11 iX1_fits_1 0 rfl rfl 0 (by decide) fX1_fits_11 rfl ?_
      refine g_iload h (pc := 14) dX1_fits_14 6 rfl ?_
      refine g_iconst h (pc := 16) (v := 0) dX1_fits_16 (by decide) ?_
      refine g_iadd h (pc := 17) dX1_fits_17  ?_
      refine g_topi (nI_a (5 * i) 0 rfl) ?_
      refine g_iald h (pc := 18) (v := col 0 e) dX1_fits_18 1 rfl (hL.ix hi (by decide)) (hL.rd hi (by decide)) ?_
      refine g_iload_n h (pc := 19) dX1_fits_19 2 rfl ?_
      refine g_icmp_ne h (pc := 20) (tgt := 85) dX1_fits_20 (by decide) (fun c2 => ?_) (fun c2 => ?_)
      · exact z (fitB_0 c1 c2)
      · exact s1  (Or.inr c2)
  refine g_iload_n h (pc := 0) dX1_fits_0 1 rfl ?_
  refine g_iconst h (pc := 1) (v := 5) dX1_fits_1 (by decide) ?_
  refine g_imul h (pc := 2) dX1_fits_2  ?_
  refine g_topi (nI_m5 i) ?_
  refine g_istore h (pc := 3) dX1_fits_3 (by decide) rfl ?_
  exact s0

theorem iX1_tally_1 : ∀ w ∈ wsX10, w ∈ wsX1_tally := by decide +kernel
theorem fX1_tally_15 : Cond.fieldLink RX1 15 "SpareShelves$Line" "size" "I" ∈ wsX1_tally := by decide +kernel
set_option maxHeartbeats 4000000 in
set_option maxRecDepth 100000 in
theorem c_tally (l : Launch) (D : va_G) (cI cO : ClassId) (b : Nat → Nat) (cap : Nat) (f : Nat → Int32) (L : List E5) (hL : Ln L cap f) (s k so mo : Int32) : CR l yX1_tally wsX1_tally 1 26 D cI cO [.ref (b 0), .int s, .int k, .int so, .int mo] (lnw cI b (nI L.length) cap f) (fun r => r = nI (L.countP (fitB s k so mo))) := by
  refine CR.of (cc := cX1_tally) (maxL := 7) (rt := .int) (by decide) rfl (Nat.le_of_ble_eq_true rfl) ?_
  intro C hgL hgD h hret
  have hsz : L.length < 2 ^ 31 := by have h1 := hL.1; have h2 := hL.2.1; omega
  refine g_iconst h (pc := 0) (v := 0) dX1_tally_0 (by decide) ?_
  refine g_istore h (pc := 1) dX1_tally_1 (by decide) rfl ?_
  refine g_iconst h (pc := 3) (v := 0) dX1_tally_3 (by decide) ?_
  refine g_istore h (pc := 4) dX1_tally_4 (by decide) rfl ?_
  suffices loop : ∀ j i : Nat, i + j = L.length → GG C 7 (lnw cI b (nI L.length) cap f) 0 0 6 [(0, .ref (b 0)), (1, .int s), (2, .int k), (3, .int so), (4, .int mo), (5, .int (nI ((L.take i).countP (fitB s k so mo)))), (6, .int (nI i))] [] from loop L.length 0 (by omega)
  intro j
  induction j with
  | zero =>
    intro i hi0
    refine g_iload h (pc := 6) dX1_tally_6 6 rfl ?_
    refine g_aload_n h (pc := 8) dX1_tally_8 0 rfl ?_
    refine g_get h (pc := 9) dX1_tally_9 iX1_tally_1 0 rfl rfl 1 (by decide) fX1_tally_15 rfl ?_
    refine g_icmp_ge_t h (pc := 12) (tgt := 38) dX1_tally_12 (by decide) (nI_le (by omega) (by omega)) ?_
    refine g_iload h (pc := 38) dX1_tally_38 5 rfl ?_
    exact hret _ dX1_tally_40 rfl (by rw [List.take_of_length_le (by omega)])
  | succ j ih =>
    intro i hi0
    obtain ⟨e, hi⟩ : ∃ e, L[i]? = some e := ⟨_, List.getElem?_eq_getElem (show i < L.length by omega)⟩
    refine g_iload h (pc := 6) dX1_tally_6 6 rfl ?_
    refine g_aload_n h (pc := 8) dX1_tally_8 0 rfl ?_
    refine g_get h (pc := 9) dX1_tally_9 iX1_tally_1 0 rfl rfl 1 (by decide) fX1_tally_15 rfl ?_
    refine g_icmp_ge_f h (pc := 12) (tgt := 38) dX1_tally_12 (by decide) (nI_ge (by omega) hsz) ?_
    refine g_aload_n h (pc := 15) dX1_tally_15 0 rfl ?_
    refine g_iload h (pc := 16) dX1_tally_16 6 rfl ?_
    refine g_iload_n h (pc := 18) dX1_tally_18 1 rfl ?_
    refine g_iload_n h (pc := 19) dX1_tally_19 2 rfl ?_
    refine g_iload_n h (pc := 20) dX1_tally_20 3 rfl ?_
    refine g_iload h (pc := 21) dX1_tally_21 4 rfl ?_
    refine g_callR h (pc := 23) (As := [.int (nI i), .int s, .int k, .int so, .int mo]) (st := []) dX1_tally_23 (c_fits (gL C) (gD C) cI cO b (nI L.length) cap f L hL i e hi s k so mo) [0, 1] rfl (by decide) gX1_tally_X1_fits rfl (q0 := 0) rfl rfl (show nPar yX1_fits RX1 5 = true by decide +kernel) (by decide) rfl (by decide) (by decide) (fun r hr => ?_)
    subst hr
    have ht : (L.take (i + 1)).countP (fitB s k so mo) = (L.take i).countP (fitB s k so mo) + (if fitB s k so mo e then 1 else 0) := by
      rw [List.take_add_one, hi, List.countP_append]
      simp [List.countP_cons]
    cases hf : fitB s k so mo e with
    | false =>
      rw [hf] at ht
      refine g_topi (y := 0) rfl ?_
      refine g_if_eq_t h (pc := 26) (tgt := 32) dX1_tally_26 (by decide) rfl ?_
      refine g_iinc h (pc := 32) dX1_tally_32 6 rfl (nI_1 i) (by decide) rfl ?_
      refine g_goto h (pc := 35) (tgt := 6) dX1_tally_35 (by decide) ?_
      have h9 := ih (i + 1) (by omega)
      rw [ht] at h9
      exact h9
    | true =>
      rw [hf] at ht
      refine g_topi (y := 1) rfl ?_
      refine g_if_eq_f h (pc := 26) (tgt := 32) dX1_tally_26 (by decide) (by decide) ?_
      refine g_iinc h (pc := 29) dX1_tally_29 5 rfl (nI_1 _) (by decide) rfl ?_
      refine g_iinc h (pc := 32) dX1_tally_32 6 rfl (nI_1 i) (by decide) rfl ?_
      refine g_goto h (pc := 35) (tgt := 6) dX1_tally_35 (by decide) ?_
      have h9 := ih (i + 1) (by omega)
      rw [ht] at h9
      exact h9
