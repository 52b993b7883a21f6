/-- the place of the entry that is number left of those that fit, the first one at i; -1 if there is none -/
def fnd (p : E5 → Bool) : List E5 → Int32 → Nat → Int32
  | [], _, _ => -1
  | e :: r, left, i => if p e then (if left = 0 then nI i else fnd p r (left + (-1)) (i + 1)) else fnd p r left (i + 1)
theorem fnd_drop {p : E5 → Bool} {L : List E5} {i : Nat} {e : E5} (hi : L[i]? = some e) (left : Int32) : fnd p (L.drop i) left i = if p e then (if left = 0 then nI i else fnd p (L.drop (i + 1)) (left + (-1)) (i + 1)) else fnd p (L.drop (i + 1)) left (i + 1) := by
  have h1 := (List.getElem?_eq_some_iff.mp hi)
  obtain ⟨h2, h3⟩ := h1
  rw [List.drop_eq_getElem_cons h2, h3, fnd]

theorem iX1_find_1 : ∀ w ∈ wsX10, w ∈ wsX1_find := by decide +kernel
theorem fX1_find_15 : Cond.fieldLink RX1 15 "SpareShelves$Line" "size" "I" ∈ wsX1_find := by decide +kernel
set_option maxHeartbeats 4000000 in
set_option maxRecDepth 100000 in
theorem c_find (l : Launch) (D : va_G) (cI cO : ClassId) (b : Nat → Nat) (cap : Nat) (f : Nat → Int32) (L : List E5) (hL : Ln L cap f) (s k so nth : Int32) : CR l yX1_find wsX1_find 1 26 D cI cO [.ref (b 0), .int s, .int k, .int so, .int nth] (lnw cI b (nI L.length) cap f) (fun r => r = fnd (fitB s k so (-1)) L nth 0) := by
  refine CR.of (cc := cX1_find) (maxL := 7) (rt := .int) (by decide) rfl (Nat.le_of_ble_eq_true rfl) ?_
  intro C hgL hgD h hret
  have hsz : L.length < 2 ^ 31 := by have h1 := hL.1; have h2 := hL.2.1; omega
  refine g_iload h (pc := 0) dX1_find_0 4 rfl ?_
  refine g_istore h (pc := 2) dX1_find_2 (by decide) rfl ?_
  refine g_iconst h (pc := 4) (v := 0) dX1_find_4 (by decide) ?_
  refine g_istore h (pc := 5) dX1_find_5 (by decide) rfl ?_
  suffices loop : ∀ (j i : Nat) (left : Int32), i + j = L.length → fnd (fitB s k so (-1)) (L.drop i) left i = fnd (fitB s k so (-1)) L nth 0 → GG C 7 (lnw cI b (nI L.length) cap f) 0 0 7 [(0, .ref (b 0)), (1, .int s), (2, .int k), (3, .int so), (4, .int nth), (5, .int left), (6, .int (nI i))] [] from loop L.length 0 nth (by omega) rfl
  intro j
  induction j with
  | zero =>
    intro i left hi0 hr
    refine g_iload h (pc := 7) dX1_find_7 6 rfl ?_
    refine g_aload_n h (pc := 9) dX1_find_9 0 rfl ?_
    refine g_get h (pc := 10) dX1_find_10 iX1_find_1 0 rfl rfl 1 (by decide) fX1_find_15 rfl ?_
    refine g_icmp_ge_t h (pc := 13) (tgt := 46) dX1_find_13 (by decide) (nI_le (by omega) (by omega)) ?_
    refine g_iconst h (pc := 46) (v := (-1)) dX1_find_46 (by decide) ?_
    exact hret _ dX1_find_47 rfl (by rw [← hr, List.drop_of_length_le (by omega)]; rfl)
  | succ j ih =>
    intro i left hi0 hr
    obtain ⟨e, hi⟩ : ∃ e, L[i]? = some e := ⟨_, List.getElem?_eq_getElem (show i < L.length by omega)⟩
    rw [fnd_drop hi] at hr
    refine g_iload h (pc := 7) dX1_find_7 6 rfl ?_
    refine g_aload_n h (pc := 9) dX1_find_9 0 rfl ?_
    refine g_get h (pc := 10) dX1_find_10 iX1_find_1 0 rfl rfl 1 (by decide) fX1_find_15 rfl ?_
    refine g_icmp_ge_f h (pc := 13) (tgt := 46) dX1_find_13 (by decide) (nI_ge (by omega) hsz) ?_
    refine g_aload_n h (pc := 16) dX1_find_16 0 rfl ?_
    refine g_iload h (pc := 17) dX1_find_17 6 rfl ?_
    refine g_iload_n h (pc := 19) dX1_find_19 1 rfl ?_
    refine g_iload_n h (pc := 20) dX1_find_20 2 rfl ?_
    refine g_iload_n h (pc := 21) dX1_find_21 3 rfl ?_
    refine g_iconst h (pc := 22) (v := (-1)) dX1_find_22 (by decide) ?_
    refine g_callR h (pc := 23) (As := [.int (nI i), .int s, .int k, .int so, .int (-1)]) (st := []) dX1_find_23 (c_fits (gL C) (gD C) cI cO b (nI L.length) cap f L hL i e hi s k so (-1)) [0, 1] rfl (by decide) gX1_find_X1_fits rfl (q0 := 0) rfl rfl (show nPar yX1_fits RX1 5 = true by decide +kernel) (by decide) rfl (by decide) (by decide) (fun r hr9 => ?_)
    subst hr9
    cases hf : fitB s k so (-1) e with
    | false =>
      rw [hf] at hr
      refine g_topi (y := 0) rfl ?_
      refine g_if_eq_t h (pc := 26) (tgt := 40) dX1_find_26 (by decide) rfl ?_
      refine g_iinc h (pc := 40) dX1_find_40 6 rfl (nI_1 i) (by decide) rfl ?_
      refine g_goto h (pc := 43) (tgt := 7) dX1_find_43 (by decide) ?_
      exact ih (i + 1) left (by omega) hr
    | true =>
      rw [hf] at hr
      refine g_topi (y := 1) rfl ?_
      refine g_if_eq_f h (pc := 26) (tgt := 40) dX1_find_26 (by decide) (by decide) ?_
      refine g_iload h (pc := 29) dX1_find_29 5 rfl ?_
      refine g_if_ne h (pc := 31) (tgt := 37) dX1_find_31 (by decide) (fun c1 => ?_) (fun c1 => ?_)
      · rw [if_pos rfl, if_neg c1] at hr
        refine g_iinc h (pc := 37) dX1_find_37 5 rfl (show left + Int32.ofInt (-1) = left + (-1) from congrArg (left + ·) (by decide)) (by decide) rfl ?_
        refine g_iinc h (pc := 40) dX1_find_40 6 rfl (nI_1 i) (by decide) rfl ?_
        refine g_goto h (pc := 43) (tgt := 7) dX1_find_43 (by decide) ?_
        exact ih (i + 1) _ (by omega) hr
      · rw [if_pos rfl, if_pos c1] at hr
        refine g_iload h (pc := 34) dX1_find_34 6 rfl ?_
        exact hret _ dX1_find_36 rfl hr

theorem iX1_read_1 : ∀ w ∈ wsX10, w ∈ wsX1_read := by decide +kernel
theorem fX1_read_15 : Cond.fieldLink RX1 15 "SpareShelves$Line" "size" "I" ∈ wsX1_read := by decide +kernel
theorem fX1_read_11 : Cond.fieldLink RX1 11 "SpareShelves$Line" "cells" "[I" ∈ wsX1_read := by decide +kernel
set_option maxHeartbeats 4000000 in
set_option maxRecDepth 100000 in
theorem c_read (l : Launch) (D : va_G) (cI cO : ClassId) (b : Nat → Nat) (cap : Nat) (f : Nat → Int32) (L : List E5) (hL : Ln L cap f) (i : Nat) (e : E5) (hi : L[i]? = some e) (j : Nat) (hj : j < 5) (x c : Int32) (hx : x = nI i) (hc : c = nI j) : CR l yX1_read wsX1_read 0 0 D cI cO [.ref (b 0), .int x, .int c] (lnw cI b (nI L.length) cap f) (fun r => r = col j e) := by
  refine CR.of (cc := cX1_read) (maxL := 3) (rt := .int) (by decide) rfl (Nat.le_of_ble_eq_true rfl) ?_
  intro C hgL hgD h hret
  subst hx; subst hc
  have hsz : L.length < 2 ^ 31 := by have h1 := hL.1; have h2 := hL.2.1; omega
  have hlt : i < L.length := (List.getElem?_eq_some_iff.mp hi).1
  refine g_iload_n h (pc := 0) dX1_read_0 1 rfl ?_
  refine g_if_lt_f h (pc := 1) (tgt := 12) dX1_read_1 (by decide) (nI_pos (by omega)) ?_
  refine g_iload_n h (pc := 4) dX1_read_4 1 rfl ?_
  refine g_aload_n h (pc := 5) dX1_read_5 0 rfl ?_
  refine g_get h (pc := 6) dX1_read_6 iX1_read_1 0 rfl rfl 1 (by decide) fX1_read_15 rfl ?_
  refine g_icmp_lt_t h (pc := 9) (tgt := 16) dX1_read_9 (by decide) (nI_lt hlt hsz) ?_
  refine g_aload_n h (pc := 16) dX1_read_16 0 rfl ?_
  refine g_get h (pc := 17) dX1_read_17 iX1_read_1 0 rfl rfl 0 (by decide) fX1_read_11 rfl ?_
  refine g_iload_n h (pc := 20) dX1_read_20 1 rfl ?_
  refine g_iconst h (pc := 21) (v := 5) dX1_read_21 (by decide) ?_
  refine g_imul h (pc := 22) dX1_read_22  ?_
  refine g_topi (nI_m5 i) ?_
  refine g_iload_n h (pc := 23) dX1_read_23 2 rfl ?_
  refine g_iadd h (pc := 24) dX1_read_24  ?_
  refine g_topi (nI_a (5 * i) j rfl) ?_
  refine g_iald h (pc := 25) (v := col j e) dX1_read_25 1 rfl (hL.ix hi hj) (hL.rd hi hj) ?_
  exact hret _ dX1_read_26 rfl rfl
set_option maxHeartbeats 4000000 in
set_option maxRecDepth 100000 in
theorem c_readN (l : Launch) (D : va_G) (cI cO : ClassId) (b : Nat → Nat) (cap : Nat) (f : Nat → Int32) (n c : Int32) : CR l yX1_read wsX1_read 0 0 D cI cO [.ref (b 0), .int (-1), .int c] (lnw cI b n cap f) (fun r => r = -1) := by
  refine CR.of (cc := cX1_read) (maxL := 3) (rt := .int) (by decide) rfl (Nat.le_of_ble_eq_true rfl) ?_
  intro C hgL hgD h hret
  refine g_iload_n h (pc := 0) dX1_read_0 1 rfl ?_
  refine g_if_lt_t h (pc := 1) (tgt := 12) dX1_read_1 (by decide) (by decide) ?_
  refine g_iconst h (pc := 12) (v := (-1)) dX1_read_12 (by decide) ?_
  refine g_goto h (pc := 13) (tgt := 26) dX1_read_13 (by decide) ?_
  exact hret _ dX1_read_26 rfl rfl

theorem iX1_drop_1 : ∀ w ∈ wsX10, w ∈ wsX1_drop := by decide +kernel
theorem fX1_drop_15 : Cond.fieldLink RX1 15 "SpareShelves$Line" "size" "I" ∈ wsX1_drop := by decide +kernel
theorem fX1_drop_11 : Cond.fieldLink RX1 11 "SpareShelves$Line" "cells" "[I" ∈ wsX1_drop := by decide +kernel
theorem mX1_drop_1 : Cond.methodLink RX1 25 arraycopyName ∈ wsX1_drop := by decide +kernel
theorem mX1_drop_2 : Cond.native arraycopyName ∈ wsX1_drop := by decide +kernel
theorem mX1_drop_3 : Cond.static arraycopyName ∈ wsX1_drop := by decide +kernel
theorem mX1_drop_4 : Cond.initialized "java/lang/System" ∈ wsX1_drop := by decide +kernel
theorem Ln.drop {L : List E5} {cap : Nat} {f : Nat → Int32} (h : Ln L cap f) {i : Nat} (hi : i < L.length) : Ln (L.eraseIdx i) cap (va_cpy f f (5 * i + 5) (5 * i) (5 * L.length - (5 * i + 5))) := by
  have h1 := h.1
  refine ⟨by rw [List.length_eraseIdx_of_lt hi]; omega, h.2.1, fun i2 e he j hj => ?_⟩
  rw [List.getElem?_eraseIdx] at he
  split at he
  · rw [pk_cpy_out (Or.inl (by omega))]
    exact h.2.2 i2 e he j hj
  · have h2 := (List.getElem?_eq_some_iff.mp he).1
    rw [pk_cpy_in (by omega) (by omega)]
    have h3 := h.2.2 (i2 + 1) e he j hj
    rw [← h3]
    congr 1
    omega
set_option maxHeartbeats 4000000 in
set_option maxRecDepth 100000 in
theorem c_drop (l : Launch) (D : va_G) (cI cO : ClassId) (b : Nat → Nat) (cap : Nat) (f : Nat → Int32) (L : List E5) (hL : Ln L cap f) (i : Nat) (hi : i < L.length) (x : Int32) (hx : x = nI i) : CV l yX1_drop wsX1_drop 1 60 0 0 D cI cO [.ref (b 0), .int x] (lnw cI b (nI L.length) cap f) (fun f2 : Nat → Int32 => Ln (L.eraseIdx i) cap f2) (fun f2 => lnw cI b (nI (L.eraseIdx i).length) cap f2) := by
  refine CV.of (cc := cX1_drop) (maxL := 4) (by decide) rfl (Nat.le_of_ble_eq_true rfl) ?_
  intro C hgL hgD hw h hret
  subst hx
  have h1 := hL.1
  have h2 := hL.2.1
  have hsz : L.length < 2 ^ 31 := by omega
  have e5 : nI (5 * i) + 5 = nI (5 * i + 5) := nI_a (5 * i) 5 rfl
  have es : nI (5 * L.length) - nI (5 * i + 5) = nI (5 * L.length - (5 * i + 5)) := pk_sub (by omega)
  refine g_iload_n h (pc := 0) dX1_drop_0 1 rfl ?_
  refine g_if_lt_f h (pc := 1) (tgt := 12) dX1_drop_1 (by decide) (nI_pos (by omega)) ?_
  refine g_iload_n h (pc := 4) dX1_drop_4 1 rfl ?_
  refine g_aload_n h (pc := 5) dX1_drop_5 0 rfl ?_
  refine g_get h (pc := 6) dX1_drop_6 iX1_drop_1 0 rfl rfl 1 (by decide) fX1_drop_15 rfl ?_
  refine g_icmp_lt_t h (pc := 9) (tgt := 13) dX1_drop_9 (by decide) (nI_lt hi hsz) ?_
  refine g_iload_n h (pc := 13) dX1_drop_13 1 rfl ?_
  refine g_iconst h (pc := 14) (v := 5) dX1_drop_14 (by decide) ?_
  refine g_imul h (pc := 15) dX1_drop_15  ?_
  refine g_topi (nI_m5 i) ?_
  refine g_istore_n h (pc := 16) dX1_drop_16 (by decide) rfl ?_
  refine g_iload_n h (pc := 17) dX1_drop_17 2 rfl ?_
  refine g_iconst h (pc := 18) (v := 5) dX1_drop_18 (by decide) ?_
  refine g_iadd h (pc := 19) dX1_drop_19  ?_
  refine g_topi e5 ?_
  refine g_istore_n h (pc := 20) dX1_drop_20 (by decide) rfl ?_
  refine g_aload_n h (pc := 21) dX1_drop_21 0 rfl ?_
  refine g_get h (pc := 22) dX1_drop_22 iX1_drop_1 0 rfl rfl 0 (by decide) fX1_drop_11 rfl ?_
  refine g_iload_n h (pc := 25) dX1_drop_25 3 rfl ?_
  refine g_aload_n h (pc := 26) dX1_drop_26 0 rfl ?_
  refine g_get h (pc := 27) dX1_drop_27 iX1_drop_1 0 rfl rfl 0 (by decide) fX1_drop_11 rfl ?_
  refine g_iload_n h (pc := 30) dX1_drop_30 2 rfl ?_
  refine g_aload_n h (pc := 31) dX1_drop_31 0 rfl ?_
  refine g_get h (pc := 32) dX1_drop_32 iX1_drop_1 0 rfl rfl 1 (by decide) fX1_drop_15 rfl ?_
  refine g_iconst h (pc := 35) (v := 5) dX1_drop_35 (by decide) ?_
  refine g_imul h (pc := 36) dX1_drop_36  ?_
  refine g_topi (nI_m5 _) ?_
  refine g_iload_n h (pc := 37) dX1_drop_37 3 rfl ?_
  refine g_isub h (pc := 38) dX1_drop_38  ?_
  refine g_topi es ?_
  refine g_copy h hw (pc := 39) (ws' := lnw cI b (nI L.length) cap (va_cpy f f (5 * i + 5) (5 * i) (5 * L.length - (5 * i + 5)))) dX1_drop_39 mX1_drop_1 mX1_drop_2 mX1_drop_3 mX1_drop_4 1 1 rfl rfl (nI_pos (by omega)) (nI_pos (by omega)) (nI_pos (by omega)) (by rw [nI_clamp (by omega), nI_clamp (by omega)]; omega) (by rw [nI_clamp (by omega), nI_clamp (by omega)]; omega) (by decide) (by decide) (by rw [nI_clamp (by omega), nI_clamp (by omega), nI_clamp (by omega)]; rfl) ?_
  refine g_aload_n h (pc := 42) dX1_drop_42 0 rfl ?_
  refine g_dup h (pc := 43) dX1_drop_43 rfl ?_
  refine g_get h (pc := 44) dX1_drop_44 iX1_drop_1 0 rfl rfl 1 (by decide) fX1_drop_15 rfl ?_
  refine g_iconst h (pc := 47) (v := 1) dX1_drop_47 (by decide) ?_
  refine g_isub h (pc := 48) dX1_drop_48  ?_
  refine g_topi (y := nI (L.eraseIdx i).length) (by rw [List.length_eraseIdx_of_lt hi, show (1 : Int32) = nI 1 from rfl, pk_sub (by omega)]) ?_
  refine g_put h hw (pc := 49)  (ty := .int) dX1_drop_49 iX1_drop_1 tyX1 tyX1_ok nmX1 0 rfl rfl 1 (by decide) fX1_drop_15 rfl (by decide +kernel) rfl rfl (Nat.le_of_ble_eq_true rfl) rfl ?_
  exact hret _ dX1_drop_52 (hL.drop hi) rfl (by omega) (by omega)

theorem mJ7_1 : Cond.methodLink RJ7 304 Lib.Math.min.name ∈ wsJ7_copyOf_59c91 := by decide +kernel
theorem mJ7_2 : Cond.static Lib.Math.min.name ∈ wsJ7_copyOf_59c91 := by decide +kernel
theorem mJ7_3 : Cond.initialized "java/lang/Math" ∈ wsJ7_copyOf_59c91 := by decide +kernel
theorem mJ7_4 : Cond.code Lib.Math.min.name Lib.Math.min.code 2 (some .int) ∈ wsJ7_copyOf_59c91 := by decide +kernel
theorem mJ7_5 : Cond.methodLink RJ7 150 arraycopyName ∈ wsJ7_copyOf_59c91 := by decide +kernel
theorem mJ7_6 : Cond.native arraycopyName ∈ wsJ7_copyOf_59c91 := by decide +kernel
theorem mJ7_7 : Cond.static arraycopyName ∈ wsJ7_copyOf_59c91 := by decide +kernel
theorem mJ7_8 : Cond.initialized "java/lang/System" ∈ wsJ7_copyOf_59c91 := by decide +kernel
theorem mJ7_9 : Cond.arrayClass .int ∈ wsJ7_copyOf_59c91 := by decide +kernel
set_option maxHeartbeats 4000000 in
set_option maxRecDepth 100000 in
theorem c_copyOf (l : Launch) (D : va_G) (cI cO : ClassId) (a N m : Nat) (f : Nat → Int32) (hm : N < m) (hm2 : m < 10000000) (x : Int32) (hx : x = nI m) : CA l yJ7_copyOf_59c91 wsJ7_copyOf_59c91 1 80 1 m D cI cO [.ref a, .int x] [(a, .inl (cI, N, .inl f))] (fun f2 : Nat → Int32 => ∀ j, j < N → f2 j = f j) (fun f2 q => [(a, .inl (cI, N, .inl f)), (q, .inl (cI, m, .inl f2))]) := by
  refine CA.of (cc := cJ7_copyOf_59c91) (maxL := 3) (by decide) rfl (Nat.le_of_ble_eq_true rfl) ?_
  intro C hgL hgD hw h hret
  subst hx
  refine g_iload_n h (pc := 0) dJ7_copyOf_59c91_0 1 rfl ?_
  refine g_aload_n h (pc := 1) dJ7_copyOf_59c91_1 0 rfl ?_
  refine g_alen h (pc := 2) dJ7_copyOf_59c91_2 0 rfl ?_
  refine g_icmp_ne_t h (pc := 3) (tgt := 14) dJ7_copyOf_59c91_3 (by decide) (fun h9 => absurd ((nI_eq (by omega) (by omega)).mp h9) (by omega)) ?_
  refine g_iload_n h (pc := 14) dJ7_copyOf_59c91_14 1 rfl ?_
  refine g_newa h hw (pc := 15) (N := m) dJ7_copyOf_59c91_15 mJ7_9 rfl (by omega) (Nat.le_refl _) (by show 0 + m ≤ m; omega) (fun q => ?_)
  refine g_eq (ws' := [(a, .inl (cI, N, .inl f)), (q, .inl (cI, m, .inl (fun _ => 0)))]) rfl ?_
  refine g_astore_n h (pc := 17) dJ7_copyOf_59c91_17 (by decide) rfl ?_
  refine g_aload_n h (pc := 18) dJ7_copyOf_59c91_18 0 rfl ?_
  refine g_iconst h (pc := 19) (v := 0) dJ7_copyOf_59c91_19 (by decide) ?_
  refine g_aload_n h (pc := 20) dJ7_copyOf_59c91_20 2 rfl ?_
  refine g_iconst h (pc := 21) (v := 0) dJ7_copyOf_59c91_21 (by decide) ?_
  refine g_aload_n h (pc := 22) dJ7_copyOf_59c91_22 0 rfl ?_
  refine g_alen h (pc := 23) dJ7_copyOf_59c91_23 0 rfl ?_
  refine g_iload_n h (pc := 24) dJ7_copyOf_59c91_24 1 rfl ?_
  refine g_min h (pc := 25) dJ7_copyOf_59c91_25 mJ7_1 mJ7_2 mJ7_3 mJ7_4 (Nat.le_of_ble_eq_true rfl) (Nat.le_of_ble_eq_true rfl) (Nat.le_refl _) (by show 0 + m ≤ m; omega) ?_
  refine g_topi (y := nI N) (if_neg (nI_nlt (by omega) (by omega))) ?_
  refine g_copy h hw (pc := 28) (ws' := [(a, .inl (cI, N, .inl f)), (q, .inl (cI, m, .inl (va_cpy f (fun _ => 0) 0 0 N)))]) dJ7_copyOf_59c91_28 mJ7_5 mJ7_6 mJ7_7 mJ7_8 0 1 rfl rfl (by decide) (by decide) (nI_pos (by omega)) (by rw [nI_clamp (by omega)]; show 0 + N ≤ N; omega) (by rw [nI_clamp (by omega)]; show 0 + N ≤ m; omega) (Nat.le_of_ble_eq_true rfl) (show 0 + (nativeFrameWords "java/lang/System" "arraycopy" 5 + 11) ≤ 80 by decide) (by rw [nI_clamp (by omega)]; rfl) ?_
  refine g_aload_n h (pc := 31) dJ7_copyOf_59c91_31 2 rfl ?_
  exact hret _ q dJ7_copyOf_59c91_32 (fun j hj => by rw [pk_cpy_in (by omega) (by omega)]; congr 1; omega) rfl (by omega) (by omega)

theorem iX1_add_1 : ∀ w ∈ wsX10, w ∈ wsX1_add := by decide +kernel
theorem fX1_add_11 : Cond.fieldLink RX1 11 "SpareShelves$Line" "cells" "[I" ∈ wsX1_add := by decide +kernel
theorem fX1_add_15 : Cond.fieldLink RX1 15 "SpareShelves$Line" "size" "I" ∈ wsX1_add := by decide +kernel
theorem mX1_add_1 : Cond.methodLink RX1 19 yJ7_copyOf_59c91 ∈ wsX1_add := by decide +kernel
theorem mX1_add_2 : Cond.static yJ7_copyOf_59c91 ∈ wsX1_add := by decide +kernel
theorem mX1_add_3 : Cond.initialized RJ7 ∈ wsX1_add := by decide +kernel
theorem Ln.push {L : List E5} {cap : Nat} {f : Nat → Int32} (h : Ln L cap f) (hc : 5 * L.length + 5 ≤ cap) (e0 e1 e2 e3 e4 : Int32) : Ln (L ++ [(e0, e1, e2, e3, e4)]) cap (upd (upd (upd (upd (upd f (5 * L.length + 0) e0) (5 * L.length + 1) e1) (5 * L.length + 2) e2) (5 * L.length + 3) e3) (5 * L.length + 4) e4) := by
  refine ⟨by rw [List.length_append]; simp; omega, h.2.1, fun i e he j hj => ?_⟩
  by_cases hi : i < L.length
  · rw [List.getElem?_append_left hi] at he
    have h1 := h.2.2 i e he j hj
    rw [pk_un (by omega), pk_un (by omega), pk_un (by omega), pk_un (by omega), pk_un (by omega)]
    exact h1
  · rw [List.getElem?_append_right (by omega)] at he
    have h0 : i - L.length < 1 := (List.getElem?_eq_some_iff.mp he).1
    have hi0 : i = L.length := by omega
    subst hi0
    rw [Nat.sub_self] at he
    cases he
    match j, hj with
    | 0, _ => rw [pk_un (by omega), pk_un (by omega), pk_un (by omega), pk_un (by omega), pk_us]; rfl
    | 1, _ => rw [pk_un (by omega), pk_un (by omega), pk_un (by omega), pk_us]; rfl
    | 2, _ => rw [pk_un (by omega), pk_un (by omega), pk_us]; rfl
    | 3, _ => rw [pk_un (by omega), pk_us]; rfl
    | 4, _ => rw [pk_us]; rfl
theorem Ln.grow {L : List E5} {cap c2 : Nat} {f f2 : Nat → Int32} (h : Ln L cap f) (h2 : cap ≤ c2) (h3 : c2 < 262144) (hf : ∀ j, j < cap → f2 j = f j) : Ln L c2 f2 := by
  refine ⟨Nat.le_trans h.1 h2, h3, fun i e he j hj => ?_⟩
  rw [hf _ (h.lt he hj)]
  exact h.2.2 i e he j hj
/-- a line's room behind one entry more -/
def capN (n cap : Nat) : Nat := if cap < 5 * n + 5 then 2 * cap else cap
abbrev lnq (cI : ClassId) (h q : Nat) (n : Int32) (cap : Nat) (f : Nat → Int32) : va_W := [(h, .inr (1, [.ref q, .int n])), (q, .inl (cI, cap, .inl f))]
set_option maxHeartbeats 4000000 in
set_option maxRecDepth 100000 in
theorem c_add (l : Launch) (D : va_G) (cI cO : ClassId) (b : Nat → Nat) (cap : Nat) (f : Nat → Int32) (L : List E5) (hL : Ln L cap f) (hb : L.length < 26000) (hc0 : 640 ≤ cap) (e0 e1 e2 e3 e4 : Int32) : CV l yX1_add wsX1_add 2 110 (capN L.length cap - cap) (2 * (capN L.length cap - cap)) D cI cO [.ref (b 0), .int e0, .int e1, .int e2, .int e3, .int e4] (lnw cI b (nI L.length) cap f) (fun u : Nat × (Nat → Int32) => Ln (L ++ [(e0, e1, e2, e3, e4)]) (capN L.length cap) u.2) (fun u => lnq cI (b 0) u.1 (nI (L ++ [(e0, e1, e2, e3, e4)]).length) (capN L.length cap) u.2) := by
  refine CV.of (cc := cX1_add) (maxL := 7) (by decide) rfl (Nat.le_of_ble_eq_true rfl) ?_
  intro C hgL hgD hw h hret
  have h1 := hL.1
  have h2 := hL.2.1
  have tail : ∀ (q k n : Nat) (f2 : Nat → Int32), Ln L (capN L.length cap) f2 → 5 * L.length + 5 ≤ capN L.length cap → k ≤ capN L.length cap - cap → n ≤ 2 * (capN L.length cap - cap) → GG C 7 (lnq cI (b 0) q (nI L.length) (capN L.length cap) f2) k n 38 [(0, .ref (b 0)), (1, .int e0), (2, .int e1), (3, .int e2), (4, .int e3), (5, .int e4), (6, .int (nI (5 * L.length)))] [] := by
    intro q k n f2 hL2 hc2 hk hn
    have h3 := hL2.2.1
    refine g_aload_n h (pc := 38) dX1_add_38 0 rfl ?_
    refine g_get h (pc := 39) dX1_add_39 iX1_add_1 0 rfl rfl 0 (by decide) fX1_add_11 rfl ?_
    refine g_iload h (pc := 42) dX1_add_42 6 rfl ?_
    refine g_iconst h (pc := 44) (v := 0) dX1_add_44 (by decide) ?_
    refine g_iadd h (pc := 45) dX1_add_45  ?_
    refine g_topi (nI_a (5 * L.length) 0 rfl) ?_
    refine g_iload_n h (pc := 46) dX1_add_46 1 rfl ?_
    refine g_iast h hw (pc := 47) (ws' := lnq cI (b 0) q (nI L.length) (capN L.length cap) (upd f2 (5 * L.length + 0) e0)) dX1_add_47 1 rfl (vp_in_nI (by omega) (by omega)) (by rw [nI_clamp (by omega)]; rfl) ?_
    refine g_aload_n h (pc := 48) dX1_add_48 0 rfl ?_
    refine g_get h (pc := 49) dX1_add_49 iX1_add_1 0 rfl rfl 0 (by decide) fX1_add_11 rfl ?_
    refine g_iload h (pc := 52) dX1_add_52 6 rfl ?_
    refine g_iconst h (pc := 54) (v := 1) dX1_add_54 (by decide) ?_
    refine g_iadd h (pc := 55) dX1_add_55  ?_
    refine g_topi (nI_a (5 * L.length) 1 rfl) ?_
    refine g_iload_n h (pc := 56) dX1_add_56 2 rfl ?_
    refine g_iast h hw (pc := 57) (ws' := lnq cI (b 0) q (nI L.length) (capN L.length cap) (upd (upd f2 (5 * L.length + 0) e0) (5 * L.length + 1) e1)) dX1_add_57 1 rfl (vp_in_nI (by omega) (by omega)) (by rw [nI_clamp (by omega)]; rfl) ?_
    refine g_aload_n h (pc := 58) dX1_add_58 0 rfl ?_
    refine g_get h (pc := 59) dX1_add_59 iX1_add_1 0 rfl rfl 0 (by decide) fX1_add_11 rfl ?_
    refine g_iload h (pc := 62) dX1_add_62 6 rfl ?_
    refine g_iconst h (pc := 64) (v := 2) dX1_add_64 (by decide) ?_
    refine g_iadd h (pc := 65) dX1_add_65  ?_
    refine g_topi (nI_a (5 * L.length) 2 rfl) ?_
    refine g_iload_n h (pc := 66) dX1_add_66 3 rfl ?_
    refine g_iast h hw (pc := 67) (ws' := lnq cI (b 0) q (nI L.length) (capN L.length cap) (upd (upd (upd f2 (5 * L.length + 0) e0) (5 * L.length + 1) e1) (5 * L.length + 2) e2)) dX1_add_67 1 rfl (vp_in_nI (by omega) (by omega)) (by rw [nI_clamp (by omega)]; rfl) ?_
    refine g_aload_n h (pc := 68) dX1_add_68 0 rfl ?_
    refine g_get h (pc := 69) dX1_add_69 iX1_add_1 0 rfl rfl 0 (by decide) fX1_add_11 rfl ?_
    refine g_iload h (pc := 72) dX1_add_72 6 rfl ?_
    refine g_iconst h (pc := 74) (v := 3) dX1_add_74 (by decide) ?_
    refine g_iadd h (pc := 75) dX1_add_75  ?_
    refine g_topi (nI_a (5 * L.length) 3 rfl) ?_
    refine g_iload h (pc := 76) dX1_add_76 4 rfl ?_
    refine g_iast h hw (pc := 78) (ws' := lnq cI (b 0) q (nI L.length) (capN L.length cap) (upd (upd (upd (upd f2 (5 * L.length + 0) e0) (5 * L.length + 1) e1) (5 * L.length + 2) e2) (5 * L.length + 3) e3)) dX1_add_78 1 rfl (vp_in_nI (by omega) (by omega)) (by rw [nI_clamp (by omega)]; rfl) ?_
    refine g_aload_n h (pc := 79) dX1_add_79 0 rfl ?_
    refine g_get h (pc := 80) dX1_add_80 iX1_add_1 0 rfl rfl 0 (by decide) fX1_add_11 rfl ?_
    refine g_iload h (pc := 83) dX1_add_83 6 rfl ?_
    refine g_iconst h (pc := 85) (v := 4) dX1_add_85 (by decide) ?_
    refine g_iadd h (pc := 86) dX1_add_86  ?_
    refine g_topi (nI_a (5 * L.length) 4 rfl) ?_
    refine g_iload h (pc := 87) dX1_add_87 5 rfl ?_
    refine g_iast h hw (pc := 89) (ws' := lnq cI (b 0) q (nI L.length) (capN L.length cap) (upd (upd (upd (upd (upd f2 (5 * L.length + 0) e0) (5 * L.length + 1) e1) (5 * L.length + 2) e2) (5 * L.length + 3) e3) (5 * L.length + 4) e4)) dX1_add_89 1 rfl (vp_in_nI (by omega) (by omega)) (by rw [nI_clamp (by omega)]; rfl) ?_
    refine g_aload_n h (pc := 90) dX1_add_90 0 rfl ?_
    refine g_dup h (pc := 91) dX1_add_91 rfl ?_
    refine g_get h (pc := 92) dX1_add_92 iX1_add_1 0 rfl rfl 1 (by decide) fX1_add_15 rfl ?_
    refine g_iconst h (pc := 95) (v := 1) dX1_add_95 (by decide) ?_
    refine g_iadd h (pc := 96) dX1_add_96  ?_
    refine g_topi (y := nI (L ++ [(e0, e1, e2, e3, e4)]).length) (by rw [List.length_append]; exact nI_1 _) ?_
    refine g_put h hw (pc := 97)  (ty := .int) dX1_add_97 iX1_add_1 tyX1 tyX1_ok nmX1 0 rfl rfl 1 (by decide) fX1_add_15 rfl (by decide +kernel) rfl rfl (Nat.le_of_ble_eq_true rfl) rfl ?_
    exact hret (q, _) dX1_add_100 (hL2.push hc2 e0 e1 e2 e3 e4) rfl hk hn
  refine g_aload_n h (pc := 0) dX1_add_0 0 rfl ?_
  refine g_get h (pc := 1) dX1_add_1 iX1_add_1 0 rfl rfl 1 (by decide) fX1_add_15 rfl ?_
  refine g_iconst h (pc := 4) (v := 5) dX1_add_4 (by decide) ?_
  refine g_imul h (pc := 5) dX1_add_5  ?_
  refine g_topi (nI_m5 _) ?_
  refine g_istore h (pc := 6) dX1_add_6 (by decide) rfl ?_
  refine g_iload h (pc := 8) dX1_add_8 6 rfl ?_
  refine g_iconst h (pc := 10) (v := 5) dX1_add_10 (by decide) ?_
  refine g_iadd h (pc := 11) dX1_add_11  ?_
  refine g_topi (nI_a (5 * L.length) 5 rfl) ?_
  refine g_aload_n h (pc := 12) dX1_add_12 0 rfl ?_
  refine g_get h (pc := 13) dX1_add_13 iX1_add_1 0 rfl rfl 0 (by decide) fX1_add_11 rfl ?_
  refine g_alen h (pc := 16) dX1_add_16 1 rfl ?_
  by_cases hcc : cap < 5 * L.length + 5
  · have e9 : capN L.length cap = 2 * cap := if_pos hcc
    refine g_icmp_le_f h (pc := 17) (tgt := 38) dX1_add_17 (by decide) (nI_ge hcc (by omega)) ?_
    refine g_aload_n h (pc := 20) dX1_add_20 0 rfl ?_
    refine g_aload_n h (pc := 21) dX1_add_21 0 rfl ?_
    refine g_get h (pc := 22) dX1_add_22 iX1_add_1 0 rfl rfl 0 (by decide) fX1_add_11 rfl ?_
    refine g_iconst h (pc := 25) (v := 2) dX1_add_25 (by decide) ?_
    refine g_aload_n h (pc := 26) dX1_add_26 0 rfl ?_
    refine g_get h (pc := 27) dX1_add_27 iX1_add_1 0 rfl rfl 0 (by decide) fX1_add_11 rfl ?_
    refine g_alen h (pc := 30) dX1_add_30 1 rfl ?_
    refine g_imul h (pc := 31) dX1_add_31  ?_
    refine g_topi (y := nI (2 * cap)) (by rw [show (2 : Int32) = nI 2 from rfl, pk_mul]) ?_
    refine g_scallA h (pc := 32) (As := [.ref (b 1), .int (nI (2 * cap))]) (st := [.ref (b 0)]) (wr := [(b 0, .inr (1, [.ref (b 1), .int (nI L.length)]))]) (wz := fun f2 q => [(b 0, .inr (1, [.ref (b 1), .int (nI L.length)])), (q, .inl (cI, 2 * cap, .inl f2))]) dX1_add_32 (c_copyOf (gL C) (gD C) cI cO (b 1) cap (2 * cap) f (by omega) (by omega) _ rfl) hw [1] [0] [0, 2] rfl (by decide) rfl (by decide) (by decide) (by decide) (fun u q => rfl) ggX1_add_J7_copyOf_59c91 mX1_add_1 mX1_add_2 mX1_add_3 rfl (show nPar yJ7_copyOf_59c91 RJ7 2 = true by decide +kernel) ⟨Nat.le_of_ble_eq_true rfl, Nat.le_of_ble_eq_true rfl⟩ rfl (Nat.le_of_ble_eq_true rfl) ⟨by show _ ≤ capN L.length cap - cap; rw [e9]; omega, by show _ ≤ 2 * (capN L.length cap - cap); rw [e9]; omega⟩ (fun f2 q hf2 => ?_)
    refine g_put h hw (pc := 35) (ws' := lnq cI (b 0) q (nI L.length) (2 * cap) f2) (ty := .array .int) dX1_add_35 iX1_add_1 tyX1 tyX1_ok nmX1 0 rfl rfl 0 (by decide) fX1_add_11 rfl (by decide +kernel) rfl rfl (Nat.le_of_ble_eq_true rfl) rfl ?_
    have t9 := tail q (0 + 1) (0 + 2 * cap) f2 (by rw [e9]; exact hL.grow (by omega) (by omega) hf2) (by omega) (by omega) (by omega)
    rw [e9] at t9
    exact t9
  · have e9 : capN L.length cap = cap := if_neg hcc
    refine g_icmp_le_t h (pc := 17) (tgt := 38) dX1_add_17 (by decide) (nI_le (by omega) (by omega)) ?_
    have t9 := tail (b 1) 0 0 f (by rw [e9]; exact hL) (by omega) (by omega) (by omega)
    rw [e9] at t9
    exact t9
