/-! the reading calls in pure words -/
theorem isIn_out {x : Int32} {n : Nat} {hi : Int} (h : isIn x n = false) (hh : hi = (n : Int) - 1) : x.toInt < 0 ∨ hi < x.toInt := by
  have h1 := of_decide_eq_false h
  omega
def sw (w : Int32) (L : List Int32) : Int32 := if isIn w L.length = true then (L[tN w]?).getD (-1) else -1
theorem sw_in {L : List Int32} {j : Nat} {v : Int32} (hj : j < L.length) (hL : L.length < 100) (hv : L[j]? = some v) : sw (nI j) L = v := by
  unfold sw
  rw [if_pos (isIn_nI hj hL), show tN (nI j) = j from nI_clamp (by omega), hv]
  rfl
theorem sw_out {w : Int32} {L : List Int32} (h : isIn w L.length = false) : sw w L = -1 := by
  unfold sw
  rw [if_neg (by rw [h]; decide)]
/-- dues of a sort, at a shelf or at any, of a kind or of any -/
def duc (s k so : Int32) (e : E5) : Bool := decide ((s = -1 ∨ col 0 e = s) ∧ (k = -1 ∨ col 1 e = k) ∧ col 2 e = so)
theorem cso_inj {x y : Int32} (hx : (x = 0 ∨ x = 1 ∨ x = 2) ∨ x = 3) (hy : (y = 0 ∨ y = 1 ∨ y = 2) ∨ y = 3) : (cso x = cso y) ↔ x = y := by
  rcases hx with (rfl | rfl | rfl) | rfl <;> rcases hy with (rfl | rfl | rfl) | rfl <;> decide
theorem cso_m1 {y : Int32} (hy : (y = 0 ∨ y = 1 ∨ y = 2) ∨ y = 3) : ¬ cso y = -1 := by
  rcases hy with (rfl | rfl | rfl) | rfl <;> decide
theorem okU.sort {ns nk : Nat} {Z : Sg} {tau : Nat} {e : E5} (h : okU ns nk Z tau e) : (col 2 e = 0 ∨ col 2 e = 1 ∨ col 2 e = 2) ∨ col 2 e = 3 := by
  obtain ⟨_, _, _, -, -, -, -, -, -, -, h⟩ := h
  exact h.imp id (fun q => q.1)
theorem tallyU {s k so : Int32} (hso : (so = 0 ∨ so = 1 ∨ so = 2) ∨ so = 3) {L : List E5} (h : ∀ e ∈ L, (col 2 e = 0 ∨ col 2 e = 1 ∨ col 2 e = 2) ∨ col 2 e = 3) : (L.map ce).countP (fitB s k (cso so) (-1)) = L.countP (duc s k so) := by
  rw [List.countP_map]
  apply List.countP_congr
  intro e he
  show fitB s k (cso so) (-1) (ce e) = true ↔ duc s k so e = true
  unfold fitB duc
  rw [decide_eq_true_iff, decide_eq_true_iff]
  constructor
  · intro q
    exact ⟨q.1, q.2.1, (cso_inj (h e he) hso).mp (q.2.2.1.resolve_left (cso_m1 hso))⟩
  · intro q
    exact ⟨q.1, q.2.1, Or.inr ((cso_inj (h e he) hso).mpr q.2.2), Or.inl rfl⟩
def sumI (f : Nat → Int32) : Nat → Int32
  | 0 => 0
  | n + 1 => sumI f n + f n
/-- the entry that is number left of those that fit -/
def nth (p : E5 → Bool) : List E5 → Int32 → Option E5
  | [], _ => none
  | e :: r, left => if p e then (if left = 0 then some e else nth p r (left + (-1))) else nth p r left
theorem fnd_nth (p : E5 → Bool) : ∀ (L : List E5) (left : Int32) (i : Nat), (fnd p L left i = -1 ∧ nth p L left = none) ∨ ∃ (j : Nat) (e : E5), fnd p L left i = nI (i + j) ∧ L[j]? = some e ∧ nth p L left = some e
  | [], left, i => Or.inl ⟨rfl, rfl⟩
  | e :: r, left, i => by
    rw [fnd, nth]
    cases hp : p e with
    | true =>
      rw [if_pos rfl, if_pos rfl]
      by_cases hl : left = 0
      · rw [if_pos hl, if_pos hl]
        exact Or.inr ⟨0, e, rfl, rfl, rfl⟩
      · rw [if_neg hl, if_neg hl]
        rcases fnd_nth p r (left + (-1)) (i + 1) with h | ⟨j, e2, h1, h2, h3⟩
        · exact Or.inl h
        · exact Or.inr ⟨j + 1, e2, by rw [h1]; congr 1; omega, by simpa using h2, h3⟩
    | false =>
      rw [if_neg (by decide), if_neg (by decide)]
      rcases fnd_nth p r left (i + 1) with h | ⟨j, e2, h1, h2, h3⟩
      · exact Or.inl h
      · exact Or.inr ⟨j + 1, e2, by rw [h1]; congr 1; omega, by simpa using h2, h3⟩
def oc (j : Nat) (x : Option E5) : Int32 := match x with
  | none => -1
  | some e => col j e
def aboutP (ns nk : Nat) (d : Dy) (s k w : Int32) : Int32 := if (isIn s ns && isIn k nk) = false then -1 else sw w [d.1 7 (tN s) (tN k), nI (d.2.1.countP (fitB s k (-1) (-1))), nI (d.2.1.countP (fitB s k 0 (-1))), nI (d.2.2.1.countP (duc s k 1)), nI (d.2.1.countP (fitB s (-1) 2 k)), nI (d.2.2.1.countP (duc s k 0)), nI (d.2.2.1.countP (duc s k 3)), nI (d.2.2.1.countP (duc s k 2))]
def askP (ns nk : Nat) (d : Dy) (s k i w : Int32) : Int32 := if (isIn s ns && isIn k nk) = false then -1 else sw w [oc 2 (nth (fitB s k (-1) (-1)) d.2.1 i), oc 3 (nth (fitB s k (-1) (-1)) d.2.1 i), oc 4 (nth (fitB s k (-1) (-1)) d.2.1 i)]
def allP (ns nk : Nat) (d : Dy) (k w : Int32) : Int32 := if isIn k nk = false then -1 else sw w [d.1 9 0 (tN k), d.1 10 0 (tN k), sumI (fun s => d.1 7 s (tN k)) ns, nI (d.2.2.1.countP (duc (-1) k 0)) + nI (d.2.2.1.countP (duc (-1) k 3)), nI (d.2.2.1.countP (duc (-1) k 1)) + nI (d.2.1.countP (fitB (-1) (-1) 2 k)), nI (d.2.2.1.countP (duc (-1) k 2)), d.1 11 0 (tN k), d.1 12 0 (tN k), d.1 13 0 (tN k)]
def fieldP (ns : Nat) (Z : Sg) (d : Dy) (s w : Int32) : Int32 := if isIn s ns = false then -1 else sw w [Z 3 0 (tN s), Z 4 0 (tN s), nI (d.2.1.countP (fitB s (-1) 0 (-1))), d.1 5 0 (tN s), oc 3 (nth (fitB s (-1) 0 (-1)) d.2.1 0)]
def menderP (ns nk : Nat) (Z : Sg) (s k : Int32) : Int32 := if (isIn s ns && isIn k nk) = false then -1 else nI (mOf Z (tN k) (tN s))
def worthP (nk : Nat) (Z : Sg) (d : Dy) : Int32 := sumI (fun k => Z 0 0 k * (d.1 9 0 k - d.1 10 0 k)) nk
def countP9 (ns nk : Nat) (Z : Sg) (d : Dy) (w : Int32) : Int32 := sw w [nI nk, nI ns, Z 14 0 2, nI d.2.1.length, nI d.2.2.1.length, nI (d.2.1.countP (fitB (-1) (-1) 0 (-1))), sumI (fun s => d.1 5 0 s) ns]

theorem iX3_about_3 : ∀ w ∈ wsX30, w ∈ wsX3_about := by decide +kernel
theorem fX3_about_25 : Cond.fieldLink RX3 25 "SpareShelves" "good" "[[I" ∈ wsX3_about := by decide +kernel
theorem fX3_about_41 : Cond.fieldLink RX3 41 "SpareShelves" "asks" "LSpareShelves$Line;" ∈ wsX3_about := by decide +kernel
theorem fX3_about_45 : Cond.fieldLink RX3 45 "SpareShelves" "dues" "LSpareShelves$Line;" ∈ wsX3_about := by decide +kernel
set_option maxHeartbeats 4000000 in
set_option maxRecDepth 100000 in
theorem c_about (l : Launch) (D : va_G) (cI cO : ClassId) (a : Nat → Nat) (u : UX) (Z : Sg) (d : Dy) (hRC : RC d u) (ns nk : Nat) (hz : Zv ns nk Z) (hU : ∀ e ∈ d.2.2.1, (col 2 e = 0 ∨ col 2 e = 1 ∨ col 2 e = 2) ∨ col 2 e = 3) (x y wh : Int32) : CRc l yX3_about wsX3_about 3 80 D cI cO a u Z d [.int x, .int y, .int wh] (aboutP ns nk d x y wh) := by
  unfold CRc
  refine CR.of (cc := cX3_about) (maxL := 4) (rt := .int) (by decide) rfl (Nat.le_of_ble_eq_true rfl) ?_
  intro C hgL hgD h hret
  have hn8 := hz.n8
  have hk8 := hz.k8
  cases hp : (isIn x ns && isIn y nk) with
  | false =>
    refine g_aload_n h (pc := 0) dX3_about_0 0 rfl ?_
    refine g_iload_n h (pc := 1) dX3_about_1 1 rfl ?_
    refine g_iload_n h (pc := 2) dX3_about_2 2 rfl ?_
    refine g_callR h (pc := 3) (As := [.int x, .int y]) (st := []) dX3_about_3 (c_noplace (gL C) (gD C) cI cO a u Z d hRC ns nk hz x y) [0, 1, 2, 3, 4, 5, 6, 7, 8, 9, 10, 11, 12, 13, 14, 15, 16, 17, 18, 19, 20, 21, 22, 23, 24, 25, 26, 27, 28, 29, 30, 31, 32, 33, 34, 35, 36, 37, 38, 39, 40, 41, 42, 43, 44, 45] rfl (by decide) gX3_about_X3_isNoPlace rfl (q0 := 0) rfl rfl (show nPar yX3_isNoPlace RX3 2 = true by decide +kernel) ⟨Nat.le_of_ble_eq_true rfl, Nat.le_of_ble_eq_true rfl⟩ rfl (Nat.le_of_ble_eq_true rfl) ⟨Nat.zero_le _, Nat.zero_le _⟩ (fun r hr => ?_)
    subst hr
    rw [hp]
    refine g_topi (y := 1) rfl ?_
    refine g_if_eq_f h (pc := 6) (tgt := 11) dX3_about_6 (by decide) (by decide) ?_
    refine g_iconst h (pc := 9) (v := (-1)) dX3_about_9 (by decide) ?_
    exact hret _ dX3_about_10 rfl (by unfold aboutP; rw [if_pos hp])
  | true =>
    refine g_aload_n h (pc := 0) dX3_about_0 0 rfl ?_
    refine g_iload_n h (pc := 1) dX3_about_1 1 rfl ?_
    refine g_iload_n h (pc := 2) dX3_about_2 2 rfl ?_
    refine g_callR h (pc := 3) (As := [.int x, .int y]) (st := []) dX3_about_3 (c_noplace (gL C) (gD C) cI cO a u Z d hRC ns nk hz x y) [0, 1, 2, 3, 4, 5, 6, 7, 8, 9, 10, 11, 12, 13, 14, 15, 16, 17, 18, 19, 20, 21, 22, 23, 24, 25, 26, 27, 28, 29, 30, 31, 32, 33, 34, 35, 36, 37, 38, 39, 40, 41, 42, 43, 44, 45] rfl (by decide) gX3_about_X3_isNoPlace rfl (q0 := 0) rfl rfl (show nPar yX3_isNoPlace RX3 2 = true by decide +kernel) ⟨Nat.le_of_ble_eq_true rfl, Nat.le_of_ble_eq_true rfl⟩ rfl (Nat.le_of_ble_eq_true rfl) ⟨Nat.zero_le _, Nat.zero_le _⟩ (fun r hr => ?_)
    subst hr
    rw [hp]
    refine g_topi (y := 0) rfl ?_
    refine g_if_eq_t h (pc := 6) (tgt := 11) dX3_about_6 (by decide) rfl ?_
    have hpp := Bool.and_eq_true_iff.mp hp
    obtain ⟨s, hs, rfl⟩ := isIn_of (by omega) hpp.1
    obtain ⟨k, hk, rfl⟩ := isIn_of (by omega) hpp.2
    have ts : tN (nI s) = s := nI_clamp (by omega)
    have tk : tN (nI k) = k := nI_clamp (by omega)
    refine g_iload_n h (pc := 11) dX3_about_11 3 rfl ?_
    have e0 : ∀ q, aboutP ns nk d (nI s) (nI k) q = sw q [d.1 7 s k, nI (d.2.1.countP (fitB (nI s) (nI k) (-1) (-1))), nI (d.2.1.countP (fitB (nI s) (nI k) 0 (-1))), nI (d.2.2.1.countP (duc (nI s) (nI k) 1)), nI (d.2.1.countP (fitB (nI s) (-1) 2 (nI k))), nI (d.2.2.1.countP (duc (nI s) (nI k) 0)), nI (d.2.2.1.countP (duc (nI s) (nI k) 3)), nI (d.2.2.1.countP (duc (nI s) (nI k) 2))] := by
      intro q
      unfold aboutP
      rw [hp, if_neg (by decide), ts, tk]
    cases hsw : isIn wh 8 with
    | false =>
      refine g_tblOut h (pc := 12) (tgt := 148) dX3_about_12 (isIn_out hsw rfl) (by decide) ?_
      refine g_iconst h (pc := 148) (v := (-1)) dX3_about_148 (by decide) ?_
      exact hret _ dX3_about_149 rfl (by rw [e0]; exact (sw_out hsw).symm)
    | true =>
      obtain ⟨j9, hj9, rfl⟩ := isIn_of (by omega) hsw
      rcases (show j9 = 0 ∨ j9 = 1 ∨ j9 = 2 ∨ j9 = 3 ∨ j9 = 4 ∨ j9 = 5 ∨ j9 = 6 ∨ j9 = 7 by omega) with rfl | rfl | rfl | rfl | rfl | rfl | rfl | rfl
      · refine g_tblIn h (pc := 12) (tgt := 60) dX3_about_12 (by decide) (by decide) (off := 48) (by decide) (by decide) ?_
        refine g_aload_n h (pc := 60) dX3_about_60 0 rfl ?_
        refine g_get h (pc := 61) dX3_about_61 iX3_about_3 0 rfl rfl 2 (by decide) fX3_about_25 rfl ?_
        refine g_iload_n h (pc := 64) dX3_about_64 1 rfl ?_
        refine g_aald h (pc := 65) (v := a (23 + s)) dX3_about_65 22 rfl (vp_in_nI (by omega) (by omega)) (by rw [nI_clamp (by omega)]) ?_
        refine g_iload_n h (pc := 66) dX3_about_66 2 rfl ?_
        refine g_iald h (pc := 67) (v := d.1 7 s k) dX3_about_67 (23 + s) (cw_g cI cO a u Z d (by omega)) (vp_in_nI (by omega) (by omega)) (by rw [nI_clamp (by omega)]) ?_
        exact hret _ dX3_about_68 rfl (by rw [e0]; exact (sw_in (j := 0) (Nat.le_of_ble_eq_true rfl) (Nat.le_of_ble_eq_true rfl) rfl).symm)
      · refine g_tblIn h (pc := 12) (tgt := 69) dX3_about_12 (by decide) (by decide) (off := 57) (by decide) (by decide) ?_
        refine g_aload_n h (pc := 69) dX3_about_69 0 rfl ?_
        refine g_get h (pc := 70) dX3_about_70 iX3_about_3 0 rfl rfl 6 (by decide) fX3_about_41 rfl ?_
        refine g_iload_n h (pc := 73) dX3_about_73 1 rfl ?_
        refine g_iload_n h (pc := 74) dX3_about_74 2 rfl ?_
        refine g_iconst h (pc := 75) (v := (-1)) dX3_about_75 (by decide) ?_
        refine g_iconst h (pc := 76) (v := (-1)) dX3_about_76 (by decide) ?_
        refine g_callR h (pc := 77) (As := [.int (nI s), .int (nI k), .int (-1), .int (-1)]) (st := []) dX3_about_77 (c_tally (gL C) (gD C) cI cO (lb (a 42) u.1) d.2.2.2.1 u.2.2.2.1 d.2.1 hRC.1 (nI s) (nI k) (-1) (-1)) [42, 43] rfl (by decide) gX3_about_X1_tally rfl (q0 := 0) rfl rfl (show nPar yX1_tally RX1 4 = true by decide +kernel) ⟨Nat.le_of_ble_eq_true rfl, Nat.le_of_ble_eq_true rfl⟩ rfl (Nat.le_of_ble_eq_true rfl) ⟨Nat.zero_le _, Nat.zero_le _⟩ (fun r hr => ?_)
        subst hr
        exact hret _ dX3_about_80 rfl (by rw [e0]; exact (sw_in (j := 1) (Nat.le_of_ble_eq_true rfl) (Nat.le_of_ble_eq_true rfl) rfl).symm)
      · refine g_tblIn h (pc := 12) (tgt := 81) dX3_about_12 (by decide) (by decide) (off := 69) (by decide) (by decide) ?_
        refine g_aload_n h (pc := 81) dX3_about_81 0 rfl ?_
        refine g_get h (pc := 82) dX3_about_82 iX3_about_3 0 rfl rfl 6 (by decide) fX3_about_41 rfl ?_
        refine g_iload_n h (pc := 85) dX3_about_85 1 rfl ?_
        refine g_iload_n h (pc := 86) dX3_about_86 2 rfl ?_
        refine g_iconst h (pc := 87) (v := 0) dX3_about_87 (by decide) ?_
        refine g_iconst h (pc := 88) (v := (-1)) dX3_about_88 (by decide) ?_
        refine g_callR h (pc := 89) (As := [.int (nI s), .int (nI k), .int 0, .int (-1)]) (st := []) dX3_about_89 (c_tally (gL C) (gD C) cI cO (lb (a 42) u.1) d.2.2.2.1 u.2.2.2.1 d.2.1 hRC.1 (nI s) (nI k) 0 (-1)) [42, 43] rfl (by decide) gX3_about_X1_tally rfl (q0 := 0) rfl rfl (show nPar yX1_tally RX1 4 = true by decide +kernel) ⟨Nat.le_of_ble_eq_true rfl, Nat.le_of_ble_eq_true rfl⟩ rfl (Nat.le_of_ble_eq_true rfl) ⟨Nat.zero_le _, Nat.zero_le _⟩ (fun r hr => ?_)
        subst hr
        exact hret _ dX3_about_92 rfl (by rw [e0]; exact (sw_in (j := 2) (Nat.le_of_ble_eq_true rfl) (Nat.le_of_ble_eq_true rfl) rfl).symm)
      · refine g_tblIn h (pc := 12) (tgt := 93) dX3_about_12 (by decide) (by decide) (off := 81) (by decide) (by decide) ?_
        refine g_aload_n h (pc := 93) dX3_about_93 0 rfl ?_
        refine g_get h (pc := 94) dX3_about_94 iX3_about_3 0 rfl rfl 7 (by decide) fX3_about_45 rfl ?_
        refine g_iload_n h (pc := 97) dX3_about_97 1 rfl ?_
        refine g_iload_n h (pc := 98) dX3_about_98 2 rfl ?_
        refine g_iconst h (pc := 99) (v := 2) dX3_about_99 (by decide) ?_
        refine g_iconst h (pc := 100) (v := (-1)) dX3_about_100 (by decide) ?_
        refine g_callR h (pc := 101) (As := [.int (nI s), .int (nI k), .int 2, .int (-1)]) (st := []) dX3_about_101 (c_tally (gL C) (gD C) cI cO (lb (a 44) u.2.1) d.2.2.2.2 u.2.2.2.2 (d.2.2.1.map ce) hRC.2.1 (nI s) (nI k) 2 (-1)) [44, 45] rfl (by decide) gX3_about_X1_tally rfl (q0 := 0) rfl rfl (show nPar yX1_tally RX1 4 = true by decide +kernel) ⟨Nat.le_of_ble_eq_true rfl, Nat.le_of_ble_eq_true rfl⟩ rfl (Nat.le_of_ble_eq_true rfl) ⟨Nat.zero_le _, Nat.zero_le _⟩ (fun r hr => ?_)
        subst hr
        have t1 := tallyU (s := nI s) (k := nI k) (so := 1) (by decide) hU
        rw [show cso 1 = 2 by decide] at t1
        exact hret _ dX3_about_104 rfl (by rw [e0, t1]; exact (sw_in (j := 3) (Nat.le_of_ble_eq_true rfl) (Nat.le_of_ble_eq_true rfl) rfl).symm)
      · refine g_tblIn h (pc := 12) (tgt := 105) dX3_about_12 (by decide) (by decide) (off := 93) (by decide) (by decide) ?_
        refine g_aload_n h (pc := 105) dX3_about_105 0 rfl ?_
        refine g_iload_n h (pc := 106) dX3_about_106 1 rfl ?_
        refine g_iload_n h (pc := 107) dX3_about_107 2 rfl ?_
        refine g_callR h (pc := 108) (As := [.int (nI s), .int (nI k)]) (st := []) dX3_about_108 (c_mwait (gL C) (gD C) cI cO a u Z d hRC ns nk hz (nI s) (nI k)) [0, 1, 2, 3, 4, 5, 6, 7, 8, 9, 10, 11, 12, 13, 14, 15, 16, 17, 18, 19, 20, 21, 22, 23, 24, 25, 26, 27, 28, 29, 30, 31, 32, 33, 34, 35, 36, 37, 38, 39, 40, 41, 42, 43, 44, 45] rfl (by decide) gX3_about_X3_mendsThatWait rfl (q0 := 0) rfl rfl (show nPar yX3_mendsThatWait RX3 2 = true by decide +kernel) ⟨Nat.le_of_ble_eq_true rfl, Nat.le_of_ble_eq_true rfl⟩ rfl (Nat.le_of_ble_eq_true rfl) ⟨Nat.zero_le _, Nat.zero_le _⟩ (fun r hr => ?_)
        subst hr
        exact hret _ dX3_about_111 rfl (by rw [e0]; exact (sw_in (j := 4) (Nat.le_of_ble_eq_true rfl) (Nat.le_of_ble_eq_true rfl) rfl).symm)
      · refine g_tblIn h (pc := 12) (tgt := 112) dX3_about_12 (by decide) (by decide) (off := 100) (by decide) (by decide) ?_
        refine g_aload_n h (pc := 112) dX3_about_112 0 rfl ?_
        refine g_get h (pc := 113) dX3_about_113 iX3_about_3 0 rfl rfl 7 (by decide) fX3_about_45 rfl ?_
        refine g_iload_n h (pc := 116) dX3_about_116 1 rfl ?_
        refine g_iload_n h (pc := 117) dX3_about_117 2 rfl ?_
        refine g_iconst h (pc := 118) (v := 0) dX3_about_118 (by decide) ?_
        refine g_iconst h (pc := 119) (v := (-1)) dX3_about_119 (by decide) ?_
        refine g_callR h (pc := 120) (As := [.int (nI s), .int (nI k), .int 0, .int (-1)]) (st := []) dX3_about_120 (c_tally (gL C) (gD C) cI cO (lb (a 44) u.2.1) d.2.2.2.2 u.2.2.2.2 (d.2.2.1.map ce) hRC.2.1 (nI s) (nI k) 0 (-1)) [44, 45] rfl (by decide) gX3_about_X1_tally rfl (q0 := 0) rfl rfl (show nPar yX1_tally RX1 4 = true by decide +kernel) ⟨Nat.le_of_ble_eq_true rfl, Nat.le_of_ble_eq_true rfl⟩ rfl (Nat.le_of_ble_eq_true rfl) ⟨Nat.zero_le _, Nat.zero_le _⟩ (fun r hr => ?_)
        subst hr
        have t1 := tallyU (s := nI s) (k := nI k) (so := 0) (by decide) hU
        rw [show cso 0 = 0 by decide] at t1
        exact hret _ dX3_about_123 rfl (by rw [e0, t1]; exact (sw_in (j := 5) (Nat.le_of_ble_eq_true rfl) (Nat.le_of_ble_eq_true rfl) rfl).symm)
      · refine g_tblIn h (pc := 12) (tgt := 124) dX3_about_12 (by decide) (by decide) (off := 112) (by decide) (by decide) ?_
        refine g_aload_n h (pc := 124) dX3_about_124 0 rfl ?_
        refine g_get h (pc := 125) dX3_about_125 iX3_about_3 0 rfl rfl 7 (by decide) fX3_about_45 rfl ?_
        refine g_iload_n h (pc := 128) dX3_about_128 1 rfl ?_
        refine g_iload_n h (pc := 129) dX3_about_129 2 rfl ?_
        refine g_iconst h (pc := 130) (v := 1) dX3_about_130 (by decide) ?_
        refine g_iconst h (pc := 131) (v := (-1)) dX3_about_131 (by decide) ?_
        refine g_callR h (pc := 132) (As := [.int (nI s), .int (nI k), .int 1, .int (-1)]) (st := []) dX3_about_132 (c_tally (gL C) (gD C) cI cO (lb (a 44) u.2.1) d.2.2.2.2 u.2.2.2.2 (d.2.2.1.map ce) hRC.2.1 (nI s) (nI k) 1 (-1)) [44, 45] rfl (by decide) gX3_about_X1_tally rfl (q0 := 0) rfl rfl (show nPar yX1_tally RX1 4 = true by decide +kernel) ⟨Nat.le_of_ble_eq_true rfl, Nat.le_of_ble_eq_true rfl⟩ rfl (Nat.le_of_ble_eq_true rfl) ⟨Nat.zero_le _, Nat.zero_le _⟩ (fun r hr => ?_)
        subst hr
        have t1 := tallyU (s := nI s) (k := nI k) (so := 3) (by decide) hU
        rw [show cso 3 = 1 by decide] at t1
        exact hret _ dX3_about_135 rfl (by rw [e0, t1]; exact (sw_in (j := 6) (Nat.le_of_ble_eq_true rfl) (Nat.le_of_ble_eq_true rfl) rfl).symm)
      · refine g_tblIn h (pc := 12) (tgt := 136) dX3_about_12 (by decide) (by decide) (off := 124) (by decide) (by decide) ?_
        refine g_aload_n h (pc := 136) dX3_about_136 0 rfl ?_
        refine g_get h (pc := 137) dX3_about_137 iX3_about_3 0 rfl rfl 7 (by decide) fX3_about_45 rfl ?_
        refine g_iload_n h (pc := 140) dX3_about_140 1 rfl ?_
        refine g_iload_n h (pc := 141) dX3_about_141 2 rfl ?_
        refine g_iconst h (pc := 142) (v := 3) dX3_about_142 (by decide) ?_
        refine g_iconst h (pc := 143) (v := (-1)) dX3_about_143 (by decide) ?_
        refine g_callR h (pc := 144) (As := [.int (nI s), .int (nI k), .int 3, .int (-1)]) (st := []) dX3_about_144 (c_tally (gL C) (gD C) cI cO (lb (a 44) u.2.1) d.2.2.2.2 u.2.2.2.2 (d.2.2.1.map ce) hRC.2.1 (nI s) (nI k) 3 (-1)) [44, 45] rfl (by decide) gX3_about_X1_tally rfl (q0 := 0) rfl rfl (show nPar yX1_tally RX1 4 = true by decide +kernel) ⟨Nat.le_of_ble_eq_true rfl, Nat.le_of_ble_eq_true rfl⟩ rfl (Nat.le_of_ble_eq_true rfl) ⟨Nat.zero_le _, Nat.zero_le _⟩ (fun r hr => ?_)
        subst hr
        have t1 := tallyU (s := nI s) (k := nI k) (so := 2) (by decide) hU
        rw [show cso 2 = 3 by decide] at t1
        exact hret _ dX3_about_147 rfl (by rw [e0, t1]; exact (sw_in (j := 7) (Nat.le_of_ble_eq_true rfl) (Nat.le_of_ble_eq_true rfl) rfl).symm)

theorem iX3_ask_3 : ∀ w ∈ wsX30, w ∈ wsX3_ask := by decide +kernel
theorem fX3_ask_41 : Cond.fieldLink RX3 41 "SpareShelves" "asks" "LSpareShelves$Line;" ∈ wsX3_ask := by decide +kernel
set_option maxHeartbeats 4000000 in
set_option maxRecDepth 100000 in
theorem c_ask (l : Launch) (D : va_G) (cI cO : ClassId) (a : Nat → Nat) (u : UX) (Z : Sg) (d : Dy) (hRC : RC d u) (ns nk : Nat) (hz : Zv ns nk Z) (hlA : d.2.1.length ≤ 20000) (x y i wh : Int32) : CRc l yX3_ask wsX3_ask 2 60 D cI cO a u Z d [.int x, .int y, .int i, .int wh] (askP ns nk d x y i wh) := by
  unfold CRc
  refine CR.of (cc := cX3_ask) (maxL := 6) (rt := .int) (by decide) rfl (Nat.le_of_ble_eq_true rfl) ?_
  intro C hgL hgD h hret
  have hn8 := hz.n8
  have hk8 := hz.k8
  cases hp : (isIn x ns && isIn y nk) with
  | false =>
    refine g_aload_n h (pc := 0) dX3_ask_0 0 rfl ?_
    refine g_iload_n h (pc := 1) dX3_ask_1 1 rfl ?_
    refine g_iload_n h (pc := 2) dX3_ask_2 2 rfl ?_
    refine g_callR h (pc := 3) (As := [.int x, .int y]) (st := []) dX3_ask_3 (c_noplace (gL C) (gD C) cI cO a u Z d hRC ns nk hz x y) [0, 1, 2, 3, 4, 5, 6, 7, 8, 9, 10, 11, 12, 13, 14, 15, 16, 17, 18, 19, 20, 21, 22, 23, 24, 25, 26, 27, 28, 29, 30, 31, 32, 33, 34, 35, 36, 37, 38, 39, 40, 41, 42, 43, 44, 45] rfl (by decide) gX3_ask_X3_isNoPlace rfl (q0 := 0) rfl rfl (show nPar yX3_isNoPlace RX3 2 = true by decide +kernel) ⟨Nat.le_of_ble_eq_true rfl, Nat.le_of_ble_eq_true rfl⟩ rfl (Nat.le_of_ble_eq_true rfl) ⟨Nat.zero_le _, Nat.zero_le _⟩ (fun r hr => ?_)
    subst hr
    rw [hp]
    refine g_topi (y := 1) rfl ?_
    refine g_if_eq_f h (pc := 6) (tgt := 11) dX3_ask_6 (by decide) (by decide) ?_
    refine g_iconst h (pc := 9) (v := (-1)) dX3_ask_9 (by decide) ?_
    exact hret _ dX3_ask_10 rfl (by unfold askP; rw [if_pos hp])
  | true =>
    refine g_aload_n h (pc := 0) dX3_ask_0 0 rfl ?_
    refine g_iload_n h (pc := 1) dX3_ask_1 1 rfl ?_
    refine g_iload_n h (pc := 2) dX3_ask_2 2 rfl ?_
    refine g_callR h (pc := 3) (As := [.int x, .int y]) (st := []) dX3_ask_3 (c_noplace (gL C) (gD C) cI cO a u Z d hRC ns nk hz x y) [0, 1, 2, 3, 4, 5, 6, 7, 8, 9, 10, 11, 12, 13, 14, 15, 16, 17, 18, 19, 20, 21, 22, 23, 24, 25, 26, 27, 28, 29, 30, 31, 32, 33, 34, 35, 36, 37, 38, 39, 40, 41, 42, 43, 44, 45] rfl (by decide) gX3_ask_X3_isNoPlace rfl (q0 := 0) rfl rfl (show nPar yX3_isNoPlace RX3 2 = true by decide +kernel) ⟨Nat.le_of_ble_eq_true rfl, Nat.le_of_ble_eq_true rfl⟩ rfl (Nat.le_of_ble_eq_true rfl) ⟨Nat.zero_le _, Nat.zero_le _⟩ (fun r hr => ?_)
    subst hr
    rw [hp]
    refine g_topi (y := 0) rfl ?_
    refine g_if_eq_t h (pc := 6) (tgt := 11) dX3_ask_6 (by decide) rfl ?_
    have hpp := Bool.and_eq_true_iff.mp hp
    obtain ⟨s, hs, rfl⟩ := isIn_of (by omega) hpp.1
    obtain ⟨k, hk, rfl⟩ := isIn_of (by omega) hpp.2
    have ts : tN (nI s) = s := nI_clamp (by omega)
    have tk : tN (nI k) = k := nI_clamp (by omega)
    refine g_aload_n h (pc := 11) dX3_ask_11 0 rfl ?_
    refine g_get h (pc := 12) dX3_ask_12 iX3_ask_3 0 rfl rfl 6 (by decide) fX3_ask_41 rfl ?_
    refine g_iload_n h (pc := 15) dX3_ask_15 1 rfl ?_
    refine g_iload_n h (pc := 16) dX3_ask_16 2 rfl ?_
    refine g_iconst h (pc := 17) (v := (-1)) dX3_ask_17 (by decide) ?_
    refine g_iload_n h (pc := 18) dX3_ask_18 3 rfl ?_
    refine g_callR h (pc := 19) (As := [.int (nI s), .int (nI k), .int (-1), .int i]) (st := []) dX3_ask_19 (c_find (gL C) (gD C) cI cO (lb (a 42) u.1) d.2.2.2.1 u.2.2.2.1 d.2.1 hRC.1 (nI s) (nI k) (-1) i) [42, 43] rfl (by decide) gX3_ask_X1_find rfl (q0 := 0) rfl rfl (show nPar yX1_find RX1 4 = true by decide +kernel) ⟨Nat.le_of_ble_eq_true rfl, Nat.le_of_ble_eq_true rfl⟩ rfl (Nat.le_of_ble_eq_true rfl) ⟨Nat.zero_le _, Nat.zero_le _⟩ (fun r hr => ?_)
    subst hr
    refine g_istore h (pc := 22) dX3_ask_22 (by decide) rfl ?_
    refine g_iload h (pc := 24) dX3_ask_24 4 rfl ?_
    have e0 : ∀ q, askP ns nk d (nI s) (nI k) i q = sw q [oc 2 (nth (fitB (nI s) (nI k) (-1) (-1)) d.2.1 i), oc 3 (nth (fitB (nI s) (nI k) (-1) (-1)) d.2.1 i), oc 4 (nth (fitB (nI s) (nI k) (-1) (-1)) d.2.1 i)] := by
      intro q
      unfold askP
      rw [hp, if_neg (by decide)]
    cases hsw : isIn wh 3 with
    | false =>
      refine g_tblOut h (pc := 26) (tgt := 85) dX3_ask_26 (isIn_out hsw rfl) (by decide) ?_
      refine g_iconst h (pc := 85) (v := (-1)) dX3_ask_85 (by decide) ?_
      exact hret _ dX3_ask_86 rfl (by rw [e0]; exact (sw_out hsw).symm)
    | true =>
      obtain ⟨j9, hj9, rfl⟩ := isIn_of (by omega) hsw
      rcases (show j9 = 0 ∨ j9 = 1 ∨ j9 = 2 by omega) with rfl | rfl | rfl
      · refine g_tblIn h (pc := 26) (tgt := 52) dX3_ask_26 (by decide) (by decide) (off := 26) (by decide) (by decide) ?_
        rcases fnd_nth (fitB (nI s) (nI k) (-1) (-1)) d.2.1 i 0 with ⟨f1, f2⟩ | ⟨i2, e, f1, f2, f3⟩
        · rw [f1]
          refine g_aload_n h (pc := 52) dX3_ask_52 0 rfl ?_
          refine g_get h (pc := 53) dX3_ask_53 iX3_ask_3 0 rfl rfl 6 (by decide) fX3_ask_41 rfl ?_
          refine g_iload h (pc := 56) dX3_ask_56 5 rfl ?_
          refine g_iconst h (pc := 58) (v := 2) dX3_ask_58 (by decide) ?_
          refine g_callR h (pc := 59) (As := [.int (-1), .int 2]) (st := []) dX3_ask_59 (c_readN (gL C) (gD C) cI cO (lb (a 42) u.1) d.2.2.2.1 u.2.2.2.1 (nI d.2.1.length) 2) [42, 43] rfl (by decide) gX3_ask_X1_read rfl (q0 := 0) rfl rfl (show nPar yX1_read RX1 2 = true by decide +kernel) ⟨Nat.le_of_ble_eq_true rfl, Nat.le_of_ble_eq_true rfl⟩ rfl (Nat.le_of_ble_eq_true rfl) ⟨Nat.zero_le _, Nat.zero_le _⟩ (fun r hr => ?_)
          subst hr
          exact hret _ dX3_ask_62 rfl (by rw [e0, f2]; exact (sw_in (j := 0) (Nat.le_of_ble_eq_true rfl) (Nat.le_of_ble_eq_true rfl) rfl).symm)
        · rw [f1, Nat.zero_add]
          refine g_aload_n h (pc := 52) dX3_ask_52 0 rfl ?_
          refine g_get h (pc := 53) dX3_ask_53 iX3_ask_3 0 rfl rfl 6 (by decide) fX3_ask_41 rfl ?_
          refine g_iload h (pc := 56) dX3_ask_56 5 rfl ?_
          refine g_iconst h (pc := 58) (v := 2) dX3_ask_58 (by decide) ?_
          refine g_callR h (pc := 59) (As := [.int (nI i2), .int 2]) (st := []) dX3_ask_59 (c_read (gL C) (gD C) cI cO (lb (a 42) u.1) d.2.2.2.1 u.2.2.2.1 d.2.1 hRC.1 i2 e f2 2 (by decide) _ 2 rfl rfl) [42, 43] rfl (by decide) gX3_ask_X1_read rfl (q0 := 0) rfl rfl (show nPar yX1_read RX1 2 = true by decide +kernel) ⟨Nat.le_of_ble_eq_true rfl, Nat.le_of_ble_eq_true rfl⟩ rfl (Nat.le_of_ble_eq_true rfl) ⟨Nat.zero_le _, Nat.zero_le _⟩ (fun r hr => ?_)
          subst hr
          exact hret _ dX3_ask_62 rfl (by rw [e0, f3]; exact (sw_in (j := 0) (Nat.le_of_ble_eq_true rfl) (Nat.le_of_ble_eq_true rfl) rfl).symm)
      · refine g_tblIn h (pc := 26) (tgt := 63) dX3_ask_26 (by decide) (by decide) (off := 37) (by decide) (by decide) ?_
        rcases fnd_nth (fitB (nI s) (nI k) (-1) (-1)) d.2.1 i 0 with ⟨f1, f2⟩ | ⟨i2, e, f1, f2, f3⟩
        · rw [f1]
          refine g_aload_n h (pc := 63) dX3_ask_63 0 rfl ?_
          refine g_get h (pc := 64) dX3_ask_64 iX3_ask_3 0 rfl rfl 6 (by decide) fX3_ask_41 rfl ?_
          refine g_iload h (pc := 67) dX3_ask_67 5 rfl ?_
          refine g_iconst h (pc := 69) (v := 3) dX3_ask_69 (by decide) ?_
          refine g_callR h (pc := 70) (As := [.int (-1), .int 3]) (st := []) dX3_ask_70 (c_readN (gL C) (gD C) cI cO (lb (a 42) u.1) d.2.2.2.1 u.2.2.2.1 (nI d.2.1.length) 3) [42, 43] rfl (by decide) gX3_ask_X1_read rfl (q0 := 0) rfl rfl (show nPar yX1_read RX1 2 = true by decide +kernel) ⟨Nat.le_of_ble_eq_true rfl, Nat.le_of_ble_eq_true rfl⟩ rfl (Nat.le_of_ble_eq_true rfl) ⟨Nat.zero_le _, Nat.zero_le _⟩ (fun r hr => ?_)
          subst hr
          exact hret _ dX3_ask_73 rfl (by rw [e0, f2]; exact (sw_in (j := 1) (Nat.le_of_ble_eq_true rfl) (Nat.le_of_ble_eq_true rfl) rfl).symm)
        · rw [f1, Nat.zero_add]
          refine g_aload_n h (pc := 63) dX3_ask_63 0 rfl ?_
          refine g_get h (pc := 64) dX3_ask_64 iX3_ask_3 0 rfl rfl 6 (by decide) fX3_ask_41 rfl ?_
          refine g_iload h (pc := 67) dX3_ask_67 5 rfl ?_
          refine g_iconst h (pc := 69) (v := 3) dX3_ask_69 (by decide) ?_
          refine g_callR h (pc := 70) (As := [.int (nI i2), .int 3]) (st := []) dX3_ask_70 (c_read (gL C) (gD C) cI cO (lb (a 42) u.1) d.2.2.2.1 u.2.2.2.1 d.2.1 hRC.1 i2 e f2 3 (by decide) _ 3 rfl rfl) [42, 43] rfl (by decide) gX3_ask_X1_read rfl (q0 := 0) rfl rfl (show nPar yX1_read RX1 2 = true by decide +kernel) ⟨Nat.le_of_ble_eq_true rfl, Nat.le_of_ble_eq_true rfl⟩ rfl (Nat.le_of_ble_eq_true rfl) ⟨Nat.zero_le _, Nat.zero_le _⟩ (fun r hr => ?_)
          subst hr
          exact hret _ dX3_ask_73 rfl (by rw [e0, f3]; exact (sw_in (j := 1) (Nat.le_of_ble_eq_true rfl) (Nat.le_of_ble_eq_true rfl) rfl).symm)
      · refine g_tblIn h (pc := 26) (tgt := 74) dX3_ask_26 (by decide) (by decide) (off := 48) (by decide) (by decide) ?_
        rcases fnd_nth (fitB (nI s) (nI k) (-1) (-1)) d.2.1 i 0 with ⟨f1, f2⟩ | ⟨i2, e, f1, f2, f3⟩
        · rw [f1]
          refine g_aload_n h (pc := 74) dX3_ask_74 0 rfl ?_
          refine g_get h (pc := 75) dX3_ask_75 iX3_ask_3 0 rfl rfl 6 (by decide) fX3_ask_41 rfl ?_
          refine g_iload h (pc := 78) dX3_ask_78 5 rfl ?_
          refine g_iconst h (pc := 80) (v := 4) dX3_ask_80 (by decide) ?_
          refine g_callR h (pc := 81) (As := [.int (-1), .int 4]) (st := []) dX3_ask_81 (c_readN (gL C) (gD C) cI cO (lb (a 42) u.1) d.2.2.2.1 u.2.2.2.1 (nI d.2.1.length) 4) [42, 43] rfl (by decide) gX3_ask_X1_read rfl (q0 := 0) rfl rfl (show nPar yX1_read RX1 2 = true by decide +kernel) ⟨Nat.le_of_ble_eq_true rfl, Nat.le_of_ble_eq_true rfl⟩ rfl (Nat.le_of_ble_eq_true rfl) ⟨Nat.zero_le _, Nat.zero_le _⟩ (fun r hr => ?_)
          subst hr
          exact hret _ dX3_ask_84 rfl (by rw [e0, f2]; exact (sw_in (j := 2) (Nat.le_of_ble_eq_true rfl) (Nat.le_of_ble_eq_true rfl) rfl).symm)
        · rw [f1, Nat.zero_add]
          refine g_aload_n h (pc := 74) dX3_ask_74 0 rfl ?_
          refine g_get h (pc := 75) dX3_ask_75 iX3_ask_3 0 rfl rfl 6 (by decide) fX3_ask_41 rfl ?_
          refine g_iload h (pc := 78) dX3_ask_78 5 rfl ?_
          refine g_iconst h (pc := 80) (v := 4) dX3_ask_80 (by decide) ?_
          refine g_callR h (pc := 81) (As := [.int (nI i2), .int 4]) (st := []) dX3_ask_81 (c_read (gL C) (gD C) cI cO (lb (a 42) u.1) d.2.2.2.1 u.2.2.2.1 d.2.1 hRC.1 i2 e f2 4 (by decide) _ 4 rfl rfl) [42, 43] rfl (by decide) gX3_ask_X1_read rfl (q0 := 0) rfl rfl (show nPar yX1_read RX1 2 = true by decide +kernel) ⟨Nat.le_of_ble_eq_true rfl, Nat.le_of_ble_eq_true rfl⟩ rfl (Nat.le_of_ble_eq_true rfl) ⟨Nat.zero_le _, Nat.zero_le _⟩ (fun r hr => ?_)
          subst hr
          exact hret _ dX3_ask_84 rfl (by rw [e0, f3]; exact (sw_in (j := 2) (Nat.le_of_ble_eq_true rfl) (Nat.le_of_ble_eq_true rfl) rfl).symm)

theorem iX3_goodOnShelves_3 : ∀ w ∈ wsX30, w ∈ wsX3_goodOnShelves := by decide +kernel
theorem fX3_goodOnShelves_19 : Cond.fieldLink RX3 19 "SpareShelves" "tree" "LSpareShelves$Tree;" ∈ wsX3_goodOnShelves := by decide +kernel
theorem iX3_goodOnShelves_2 : ∀ w ∈ wsX20, w ∈ wsX3_goodOnShelves := by decide +kernel
theorem fX3_goodOnShelves_76 : Cond.fieldLink RX3 76 "SpareShelves$Tree" "size" "I" ∈ wsX3_goodOnShelves := by decide +kernel
theorem fX3_goodOnShelves_25 : Cond.fieldLink RX3 25 "SpareShelves" "good" "[[I" ∈ wsX3_goodOnShelves := by decide +kernel
set_option maxHeartbeats 4000000 in
set_option maxRecDepth 100000 in
theorem c_goods (l : Launch) (D : va_G) (cI cO : ClassId) (a : Nat → Nat) (u : UX) (Z : Sg) (d : Dy) (hRC : RC d u) (ns nk : Nat) (hz : Zv ns nk Z) (k : Nat) (hk : k < nk) : CRc l yX3_goodOnShelves wsX3_goodOnShelves 0 0 D cI cO a u Z d [.int (nI k)] (sumI (fun s => d.1 7 s k) ns) := by
  unfold CRc
  refine CR.of (cc := cX3_goodOnShelves) (maxL := 4) (rt := .int) (by decide) rfl (Nat.le_of_ble_eq_true rfl) ?_
  intro C hgL hgD h hret
  have hn8 := hz.n8
  have hk8 := hz.k8
  refine g_iconst h (pc := 0) (v := 0) dX3_goodOnShelves_0 (by decide) ?_
  refine g_istore_n h (pc := 1) dX3_goodOnShelves_1 (by decide) rfl ?_
  refine g_iconst h (pc := 2) (v := 0) dX3_goodOnShelves_2 (by decide) ?_
  refine g_istore_n h (pc := 3) dX3_goodOnShelves_3 (by decide) rfl ?_
  suffices loop : ∀ (m i : Nat), i + m = ns → GG C 4 (cw cI cO a u Z d) 0 0 4 [(0, .ref (a 0)), (1, .int (nI k)), (2, .int (sumI (fun s => d.1 7 s k) i)), (3, .int (nI i))] [] from loop ns 0 (by omega)
  intro m
  induction m with
  | zero =>
    intro i h1
    refine g_iload_n h (pc := 4) dX3_goodOnShelves_4 3 rfl ?_
    refine g_aload_n h (pc := 5) dX3_goodOnShelves_5 0 rfl ?_
    refine g_get h (pc := 6) dX3_goodOnShelves_6 iX3_goodOnShelves_3 0 rfl rfl 1 (by decide) fX3_goodOnShelves_19 rfl ?_
    refine g_get h (pc := 9) dX3_goodOnShelves_9 iX3_goodOnShelves_2 10 rfl rfl 3 (by decide) fX3_goodOnShelves_76 rfl ?_
    refine g_topi hz.ns ?_
    refine g_icmp_ge_t h (pc := 12) (tgt := 32) dX3_goodOnShelves_12 (by decide) (nI_le (by omega) (by omega)) ?_
    refine g_iload_n h (pc := 32) dX3_goodOnShelves_32 2 rfl ?_
    rw [show i = ns by omega]
    exact hret _ dX3_goodOnShelves_33 rfl rfl
  | succ m ih =>
    intro i h1
    refine g_iload_n h (pc := 4) dX3_goodOnShelves_4 3 rfl ?_
    refine g_aload_n h (pc := 5) dX3_goodOnShelves_5 0 rfl ?_
    refine g_get h (pc := 6) dX3_goodOnShelves_6 iX3_goodOnShelves_3 0 rfl rfl 1 (by decide) fX3_goodOnShelves_19 rfl ?_
    refine g_get h (pc := 9) dX3_goodOnShelves_9 iX3_goodOnShelves_2 10 rfl rfl 3 (by decide) fX3_goodOnShelves_76 rfl ?_
    refine g_topi hz.ns ?_
    refine g_icmp_ge_f h (pc := 12) (tgt := 32) dX3_goodOnShelves_12 (by decide) (nI_ge (by omega) (by omega)) ?_
    refine g_iload_n h (pc := 15) dX3_goodOnShelves_15 2 rfl ?_
    refine g_aload_n h (pc := 16) dX3_goodOnShelves_16 0 rfl ?_
    refine g_get h (pc := 17) dX3_goodOnShelves_17 iX3_goodOnShelves_3 0 rfl rfl 2 (by decide) fX3_goodOnShelves_25 rfl ?_
    refine g_iload_n h (pc := 20) dX3_goodOnShelves_20 3 rfl ?_
    refine g_aald h (pc := 21) (v := a (23 + i)) dX3_goodOnShelves_21 22 rfl (vp_in_nI (by omega) (by omega)) (by rw [nI_clamp (by omega)]) ?_
    refine g_iload_n h (pc := 22) dX3_goodOnShelves_22 1 rfl ?_
    refine g_iald h (pc := 23) (v := d.1 7 i k) dX3_goodOnShelves_23 (23 + i) (cw_g cI cO a u Z d (by omega)) (vp_in_nI (by omega) (by omega)) (by rw [nI_clamp (by omega)]) ?_
    refine g_iadd h (pc := 24) dX3_goodOnShelves_24  ?_
    refine g_istore_n h (pc := 25) dX3_goodOnShelves_25 (by decide) rfl ?_
    refine g_iinc h (pc := 26) dX3_goodOnShelves_26 3 rfl (nI_1 i) (by decide) rfl ?_
    refine g_goto h (pc := 29) (tgt := 4) dX3_goodOnShelves_29 (by decide) ?_
    exact ih (i + 1) (by omega)

theorem iX3_stoodOfAll_3 : ∀ w ∈ wsX30, w ∈ wsX3_stoodOfAll := by decide +kernel
theorem fX3_stoodOfAll_19 : Cond.fieldLink RX3 19 "SpareShelves" "tree" "LSpareShelves$Tree;" ∈ wsX3_stoodOfAll := by decide +kernel
theorem iX3_stoodOfAll_2 : ∀ w ∈ wsX20, w ∈ wsX3_stoodOfAll := by decide +kernel
theorem fX3_stoodOfAll_76 : Cond.fieldLink RX3 76 "SpareShelves$Tree" "size" "I" ∈ wsX3_stoodOfAll := by decide +kernel
theorem fX3_stoodOfAll_31 : Cond.fieldLink RX3 31 "SpareShelves" "stood" "[I" ∈ wsX3_stoodOfAll := by decide +kernel
set_option maxHeartbeats 4000000 in
set_option maxRecDepth 100000 in
theorem c_stoods (l : Launch) (D : va_G) (cI cO : ClassId) (a : Nat → Nat) (u : UX) (Z : Sg) (d : Dy) (hRC : RC d u) (ns nk : Nat) (hz : Zv ns nk Z)  : CRc l yX3_stoodOfAll wsX3_stoodOfAll 0 0 D cI cO a u Z d [] (sumI (fun s => d.1 5 0 s) ns) := by
  unfold CRc
  refine CR.of (cc := cX3_stoodOfAll) (maxL := 3) (rt := .int) (by decide) rfl (Nat.le_of_ble_eq_true rfl) ?_
  intro C hgL hgD h hret
  have hn8 := hz.n8
  have hk8 := hz.k8
  refine g_iconst h (pc := 0) (v := 0) dX3_stoodOfAll_0 (by decide) ?_
  refine g_istore_n h (pc := 1) dX3_stoodOfAll_1 (by decide) rfl ?_
  refine g_iconst h (pc := 2) (v := 0) dX3_stoodOfAll_2 (by decide) ?_
  refine g_istore_n h (pc := 3) dX3_stoodOfAll_3 (by decide) rfl ?_
  suffices loop : ∀ (m i : Nat), i + m = ns → GG C 3 (cw cI cO a u Z d) 0 0 4 [(0, .ref (a 0)), (1, .int (sumI (fun s => d.1 5 0 s) i)), (2, .int (nI i))] [] from loop ns 0 (by omega)
  intro m
  induction m with
  | zero =>
    intro i h1
    refine g_iload_n h (pc := 4) dX3_stoodOfAll_4 2 rfl ?_
    refine g_aload_n h (pc := 5) dX3_stoodOfAll_5 0 rfl ?_
    refine g_get h (pc := 6) dX3_stoodOfAll_6 iX3_stoodOfAll_3 0 rfl rfl 1 (by decide) fX3_stoodOfAll_19 rfl ?_
    refine g_get h (pc := 9) dX3_stoodOfAll_9 iX3_stoodOfAll_2 10 rfl rfl 3 (by decide) fX3_stoodOfAll_76 rfl ?_
    refine g_topi hz.ns ?_
    refine g_icmp_ge_t h (pc := 12) (tgt := 30) dX3_stoodOfAll_12 (by decide) (nI_le (by omega) (by omega)) ?_
    refine g_iload_n h (pc := 30) dX3_stoodOfAll_30 1 rfl ?_
    rw [show i = ns by omega]
    exact hret _ dX3_stoodOfAll_31 rfl rfl
  | succ m ih =>
    intro i h1
    refine g_iload_n h (pc := 4) dX3_stoodOfAll_4 2 rfl ?_
    refine g_aload_n h (pc := 5) dX3_stoodOfAll_5 0 rfl ?_
    refine g_get h (pc := 6) dX3_stoodOfAll_6 iX3_stoodOfAll_3 0 rfl rfl 1 (by decide) fX3_stoodOfAll_19 rfl ?_
    refine g_get h (pc := 9) dX3_stoodOfAll_9 iX3_stoodOfAll_2 10 rfl rfl 3 (by decide) fX3_stoodOfAll_76 rfl ?_
    refine g_topi hz.ns ?_
    refine g_icmp_ge_f h (pc := 12) (tgt := 30) dX3_stoodOfAll_12 (by decide) (nI_ge (by omega) (by omega)) ?_
    refine g_iload_n h (pc := 15) dX3_stoodOfAll_15 1 rfl ?_
    refine g_aload_n h (pc := 16) dX3_stoodOfAll_16 0 rfl ?_
    refine g_get h (pc := 17) dX3_stoodOfAll_17 iX3_stoodOfAll_3 0 rfl rfl 4 (by decide) fX3_stoodOfAll_31 rfl ?_
    refine g_iload_n h (pc := 20) dX3_stoodOfAll_20 2 rfl ?_
    refine g_iald h (pc := 21) (v := d.1 5 0 i) dX3_stoodOfAll_21 40 rfl (vp_in_nI (by omega) (by omega)) (by rw [nI_clamp (by omega)]) ?_
    refine g_iadd h (pc := 22) dX3_stoodOfAll_22  ?_
    refine g_istore_n h (pc := 23) dX3_stoodOfAll_23 (by decide) rfl ?_
    refine g_iinc h (pc := 24) dX3_stoodOfAll_24 2 rfl (nI_1 i) (by decide) rfl ?_
    refine g_goto h (pc := 27) (tgt := 4) dX3_stoodOfAll_27 (by decide) ?_
    exact ih (i + 1) (by omega)

theorem iX3_worth_3 : ∀ w ∈ wsX30, w ∈ wsX3_worth := by decide +kernel
theorem fX3_worth_10 : Cond.fieldLink RX3 10 "SpareShelves" "kinds" "LSpareShelves$Kinds;" ∈ wsX3_worth := by decide +kernel
theorem iX3_worth_0 : ∀ w ∈ wsX00, w ∈ wsX3_worth := by decide +kernel
theorem fX3_worth_60 : Cond.fieldLink RX3 60 "SpareShelves$Kinds" "size" "I" ∈ wsX3_worth := by decide +kernel
theorem fX3_worth_63 : Cond.fieldLink RX3 63 "SpareShelves$Kinds" "price" "[I" ∈ wsX3_worth := by decide +kernel
theorem fX3_worth_91 : Cond.fieldLink RX3 91 "SpareShelves$Kinds" "bought" "[I" ∈ wsX3_worth := by decide +kernel
theorem fX3_worth_105 : Cond.fieldLink RX3 105 "SpareShelves$Kinds" "scrapped" "[I" ∈ wsX3_worth := by decide +kernel
set_option maxHeartbeats 4000000 in
set_option maxRecDepth 100000 in
theorem c_worth (l : Launch) (D : va_G) (cI cO : ClassId) (a : Nat → Nat) (u : UX) (Z : Sg) (d : Dy) (hRC : RC d u) (ns nk : Nat) (hz : Zv ns nk Z)  : CRc l yX3_worth wsX3_worth 0 0 D cI cO a u Z d [] (worthP nk Z d) := by
  unfold CRc
  refine CR.of (cc := cX3_worth) (maxL := 3) (rt := .int) (by decide) rfl (Nat.le_of_ble_eq_true rfl) ?_
  intro C hgL hgD h hret
  have hn8 := hz.n8
  have hk8 := hz.k8
  refine g_iconst h (pc := 0) (v := 0) dX3_worth_0 (by decide) ?_
  refine g_istore_n h (pc := 1) dX3_worth_1 (by decide) rfl ?_
  refine g_iconst h (pc := 2) (v := 0) dX3_worth_2 (by decide) ?_
  refine g_istore_n h (pc := 3) dX3_worth_3 (by decide) rfl ?_
  suffices loop : ∀ (m i : Nat), i + m = nk → GG C 3 (cw cI cO a u Z d) 0 0 4 [(0, .ref (a 0)), (1, .int (sumI (fun k => Z 0 0 k * (d.1 9 0 k - d.1 10 0 k)) i)), (2, .int (nI i))] [] from loop nk 0 (by omega)
  intro m
  induction m with
  | zero =>
    intro i h1
    refine g_iload_n h (pc := 4) dX3_worth_4 2 rfl ?_
    refine g_aload_n h (pc := 5) dX3_worth_5 0 rfl ?_
    refine g_get h (pc := 6) dX3_worth_6 iX3_worth_3 0 rfl rfl 0 (by decide) fX3_worth_10 rfl ?_
    refine g_get h (pc := 9) dX3_worth_9 iX3_worth_0 1 rfl rfl 8 (by decide) fX3_worth_60 rfl ?_
    refine g_topi hz.nk ?_
    refine g_icmp_ge_t h (pc := 12) (tgt := 53) dX3_worth_12 (by decide) (nI_le (by omega) (by omega)) ?_
    refine g_iload_n h (pc := 53) dX3_worth_53 1 rfl ?_
    rw [show i = nk by omega]
    exact hret _ dX3_worth_54 rfl rfl
  | succ m ih =>
    intro i h1
    refine g_iload_n h (pc := 4) dX3_worth_4 2 rfl ?_
    refine g_aload_n h (pc := 5) dX3_worth_5 0 rfl ?_
    refine g_get h (pc := 6) dX3_worth_6 iX3_worth_3 0 rfl rfl 0 (by decide) fX3_worth_10 rfl ?_
    refine g_get h (pc := 9) dX3_worth_9 iX3_worth_0 1 rfl rfl 8 (by decide) fX3_worth_60 rfl ?_
    refine g_topi hz.nk ?_
    refine g_icmp_ge_f h (pc := 12) (tgt := 53) dX3_worth_12 (by decide) (nI_ge (by omega) (by omega)) ?_
    refine g_iload_n h (pc := 15) dX3_worth_15 1 rfl ?_
    refine g_aload_n h (pc := 16) dX3_worth_16 0 rfl ?_
    refine g_get h (pc := 17) dX3_worth_17 iX3_worth_3 0 rfl rfl 0 (by decide) fX3_worth_10 rfl ?_
    refine g_get h (pc := 20) dX3_worth_20 iX3_worth_0 1 rfl rfl 0 (by decide) fX3_worth_63 rfl ?_
    refine g_iload_n h (pc := 23) dX3_worth_23 2 rfl ?_
    refine g_iald h (pc := 24) (v := Z 0 0 i) dX3_worth_24 2 rfl (vp_in_nI (by omega) (by omega)) (by rw [nI_clamp (by omega)]) ?_
    refine g_aload_n h (pc := 25) dX3_worth_25 0 rfl ?_
    refine g_get h (pc := 26) dX3_worth_26 iX3_worth_3 0 rfl rfl 0 (by decide) fX3_worth_10 rfl ?_
    refine g_get h (pc := 29) dX3_worth_29 iX3_worth_0 1 rfl rfl 3 (by decide) fX3_worth_91 rfl ?_
    refine g_iload_n h (pc := 32) dX3_worth_32 2 rfl ?_
    refine g_iald h (pc := 33) (v := d.1 9 0 i) dX3_worth_33 5 rfl (vp_in_nI (by omega) (by omega)) (by rw [nI_clamp (by omega)]) ?_
    refine g_aload_n h (pc := 34) dX3_worth_34 0 rfl ?_
    refine g_get h (pc := 35) dX3_worth_35 iX3_worth_3 0 rfl rfl 0 (by decide) fX3_worth_10 rfl ?_
    refine g_get h (pc := 38) dX3_worth_38 iX3_worth_0 1 rfl rfl 4 (by decide) fX3_worth_105 rfl ?_
    refine g_iload_n h (pc := 41) dX3_worth_41 2 rfl ?_
    refine g_iald h (pc := 42) (v := d.1 10 0 i) dX3_worth_42 6 rfl (vp_in_nI (by omega) (by omega)) (by rw [nI_clamp (by omega)]) ?_
    refine g_isub h (pc := 43) dX3_worth_43  ?_
    refine g_imul h (pc := 44) dX3_worth_44  ?_
    refine g_iadd h (pc := 45) dX3_worth_45  ?_
    refine g_istore_n h (pc := 46) dX3_worth_46 (by decide) rfl ?_
    refine g_iinc h (pc := 47) dX3_worth_47 2 rfl (nI_1 i) (by decide) rfl ?_
    refine g_goto h (pc := 50) (tgt := 4) dX3_worth_50 (by decide) ?_
    exact ih (i + 1) (by omega)

theorem iX3_count_3 : ∀ w ∈ wsX30, w ∈ wsX3_count := by decide +kernel
theorem fX3_count_10 : Cond.fieldLink RX3 10 "SpareShelves" "kinds" "LSpareShelves$Kinds;" ∈ wsX3_count := by decide +kernel
theorem iX3_count_0 : ∀ w ∈ wsX00, w ∈ wsX3_count := by decide +kernel
theorem fX3_count_60 : Cond.fieldLink RX3 60 "SpareShelves$Kinds" "size" "I" ∈ wsX3_count := by decide +kernel
theorem fX3_count_19 : Cond.fieldLink RX3 19 "SpareShelves" "tree" "LSpareShelves$Tree;" ∈ wsX3_count := by decide +kernel
theorem iX3_count_2 : ∀ w ∈ wsX20, w ∈ wsX3_count := by decide +kernel
theorem fX3_count_76 : Cond.fieldLink RX3 76 "SpareShelves$Tree" "size" "I" ∈ wsX3_count := by decide +kernel
theorem fX3_count_48 : Cond.fieldLink RX3 48 "SpareShelves" "time" "I" ∈ wsX3_count := by decide +kernel
theorem fX3_count_41 : Cond.fieldLink RX3 41 "SpareShelves" "asks" "LSpareShelves$Line;" ∈ wsX3_count := by decide +kernel
theorem iX3_count_1 : ∀ w ∈ wsX10, w ∈ wsX3_count := by decide +kernel
theorem fX3_count_98 : Cond.fieldLink RX3 98 "SpareShelves$Line" "size" "I" ∈ wsX3_count := by decide +kernel
theorem fX3_count_45 : Cond.fieldLink RX3 45 "SpareShelves" "dues" "LSpareShelves$Line;" ∈ wsX3_count := by decide +kernel
set_option maxHeartbeats 4000000 in
set_option maxRecDepth 100000 in
theorem c_count (l : Launch) (D : va_G) (cI cO : ClassId) (a : Nat → Nat) (u : UX) (Z : Sg) (d : Dy) (hRC : RC d u) (ns nk : Nat) (hz : Zv ns nk Z) (wh : Int32) : CRc l yX3_count wsX3_count 2 60 D cI cO a u Z d [.int wh] (countP9 ns nk Z d wh) := by
  unfold CRc
  refine CR.of (cc := cX3_count) (maxL := 2) (rt := .int) (by decide) rfl (Nat.le_of_ble_eq_true rfl) ?_
  intro C hgL hgD h hret
  have hn8 := hz.n8
  have hk8 := hz.k8
  refine g_iload_n h (pc := 0) dX3_count_0 1 rfl ?_
  cases hsw : isIn wh 7 with
  | false =>
    refine g_tblOut h (pc := 1) (tgt := 98) dX3_count_1 (isIn_out hsw rfl) (by decide) ?_
    refine g_iconst h (pc := 98) (v := (-1)) dX3_count_98 (by decide) ?_
    exact hret _ dX3_count_99 rfl (by exact (sw_out hsw).symm)
  | true =>
    obtain ⟨j9, hj9, rfl⟩ := isIn_of (by omega) hsw
    rcases (show j9 = 0 ∨ j9 = 1 ∨ j9 = 2 ∨ j9 = 3 ∨ j9 = 4 ∨ j9 = 5 ∨ j9 = 6 by omega) with rfl | rfl | rfl | rfl | rfl | rfl | rfl
    · refine g_tblIn h (pc := 1) (tgt := 44) dX3_count_1 (by decide) (by decide) (off := 43) (by decide) (by decide) ?_
      refine g_aload_n h (pc := 44) dX3_count_44 0 rfl ?_
      refine g_get h (pc := 45) dX3_count_45 iX3_count_3 0 rfl rfl 0 (by decide) fX3_count_10 rfl ?_
      refine g_get h (pc := 48) dX3_count_48 iX3_count_0 1 rfl rfl 8 (by decide) fX3_count_60 rfl ?_
      refine g_topi hz.nk ?_
      exact hret _ dX3_count_51 rfl (by exact (sw_in (j := 0) (Nat.le_of_ble_eq_true rfl) (Nat.le_of_ble_eq_true rfl) rfl).symm)
    · refine g_tblIn h (pc := 1) (tgt := 52) dX3_count_1 (by decide) (by decide) (off := 51) (by decide) (by decide) ?_
      refine g_aload_n h (pc := 52) dX3_count_52 0 rfl ?_
      refine g_get h (pc := 53) dX3_count_53 iX3_count_3 0 rfl rfl 1 (by decide) fX3_count_19 rfl ?_
      refine g_get h (pc := 56) dX3_count_56 iX3_count_2 10 rfl rfl 3 (by decide) fX3_count_76 rfl ?_
      refine g_topi hz.ns ?_
      exact hret _ dX3_count_59 rfl (by exact (sw_in (j := 1) (Nat.le_of_ble_eq_true rfl) (Nat.le_of_ble_eq_true rfl) rfl).symm)
    · refine g_tblIn h (pc := 1) (tgt := 60) dX3_count_1 (by decide) (by decide) (off := 59) (by decide) (by decide) ?_
      refine g_aload_n h (pc := 60) dX3_count_60 0 rfl ?_
      refine g_get h (pc := 61) dX3_count_61 iX3_count_3 0 rfl rfl 8 (by decide) fX3_count_48 rfl ?_
      exact hret _ dX3_count_64 rfl (by exact (sw_in (j := 2) (Nat.le_of_ble_eq_true rfl) (Nat.le_of_ble_eq_true rfl) rfl).symm)
    · refine g_tblIn h (pc := 1) (tgt := 65) dX3_count_1 (by decide) (by decide) (off := 64) (by decide) (by decide) ?_
      refine g_aload_n h (pc := 65) dX3_count_65 0 rfl ?_
      refine g_get h (pc := 66) dX3_count_66 iX3_count_3 0 rfl rfl 6 (by decide) fX3_count_41 rfl ?_
      refine g_get h (pc := 69) dX3_count_69 iX3_count_1 42 rfl rfl 1 (by decide) fX3_count_98 rfl ?_
      exact hret _ dX3_count_72 rfl (by exact (sw_in (j := 3) (Nat.le_of_ble_eq_true rfl) (Nat.le_of_ble_eq_true rfl) rfl).symm)
    · refine g_tblIn h (pc := 1) (tgt := 73) dX3_count_1 (by decide) (by decide) (off := 72) (by decide) (by decide) ?_
      refine g_aload_n h (pc := 73) dX3_count_73 0 rfl ?_
      refine g_get h (pc := 74) dX3_count_74 iX3_count_3 0 rfl rfl 7 (by decide) fX3_count_45 rfl ?_
      refine g_get h (pc := 77) dX3_count_77 iX3_count_1 44 rfl rfl 1 (by decide) fX3_count_98 rfl ?_
      refine g_topi (y := nI d.2.2.1.length) (by rw [List.length_map]) ?_
      exact hret _ dX3_count_80 rfl (by exact (sw_in (j := 4) (Nat.le_of_ble_eq_true rfl) (Nat.le_of_ble_eq_true rfl) rfl).symm)
    · refine g_tblIn h (pc := 1) (tgt := 81) dX3_count_1 (by decide) (by decide) (off := 80) (by decide) (by decide) ?_
      refine g_aload_n h (pc := 81) dX3_count_81 0 rfl ?_
      refine g_get h (pc := 82) dX3_count_82 iX3_count_3 0 rfl rfl 6 (by decide) fX3_count_41 rfl ?_
      refine g_iconst h (pc := 85) (v := (-1)) dX3_count_85 (by decide) ?_
      refine g_iconst h (pc := 86) (v := (-1)) dX3_count_86 (by decide) ?_
      refine g_iconst h (pc := 87) (v := 0) dX3_count_87 (by decide) ?_
      refine g_iconst h (pc := 88) (v := (-1)) dX3_count_88 (by decide) ?_
      refine g_callR h (pc := 89) (As := [.int (-1), .int (-1), .int 0, .int (-1)]) (st := []) dX3_count_89 (c_tally (gL C) (gD C) cI cO (lb (a 42) u.1) d.2.2.2.1 u.2.2.2.1 d.2.1 hRC.1 (-1) (-1) 0 (-1)) [42, 43] rfl (by decide) gX3_count_X1_tally rfl (q0 := 0) rfl rfl (show nPar yX1_tally RX1 4 = true by decide +kernel) ⟨Nat.le_of_ble_eq_true rfl, Nat.le_of_ble_eq_true rfl⟩ rfl (Nat.le_of_ble_eq_true rfl) ⟨Nat.zero_le _, Nat.zero_le _⟩ (fun r hr => ?_)
      subst hr
      exact hret _ dX3_count_92 rfl (by exact (sw_in (j := 5) (Nat.le_of_ble_eq_true rfl) (Nat.le_of_ble_eq_true rfl) rfl).symm)
    · refine g_tblIn h (pc := 1) (tgt := 93) dX3_count_1 (by decide) (by decide) (off := 92) (by decide) (by decide) ?_
      refine g_aload_n h (pc := 93) dX3_count_93 0 rfl ?_
      refine g_callR h (pc := 94) (As := []) (st := []) dX3_count_94 (c_stoods (gL C) (gD C) cI cO a u Z d hRC ns nk hz) [0, 1, 2, 3, 4, 5, 6, 7, 8, 9, 10, 11, 12, 13, 14, 15, 16, 17, 18, 19, 20, 21, 22, 23, 24, 25, 26, 27, 28, 29, 30, 31, 32, 33, 34, 35, 36, 37, 38, 39, 40, 41, 42, 43, 44, 45] rfl (by decide) gX3_count_X3_stoodOfAll rfl (q0 := 0) rfl rfl (show nPar yX3_stoodOfAll RX3 0 = true by decide +kernel) ⟨Nat.le_of_ble_eq_true rfl, Nat.le_of_ble_eq_true rfl⟩ rfl (Nat.le_of_ble_eq_true rfl) ⟨Nat.zero_le _, Nat.zero_le _⟩ (fun r hr => ?_)
      subst hr
      exact hret _ dX3_count_97 rfl (by exact (sw_in (j := 6) (Nat.le_of_ble_eq_true rfl) (Nat.le_of_ble_eq_true rfl) rfl).symm)

theorem iX3_mender_3 : ∀ w ∈ wsX30, w ∈ wsX3_mender := by decide +kernel
theorem fX3_mender_19 : Cond.fieldLink RX3 19 "SpareShelves" "tree" "LSpareShelves$Tree;" ∈ wsX3_mender := by decide +kernel
set_option maxHeartbeats 4000000 in
set_option maxRecDepth 100000 in
theorem c_mender (l : Launch) (D : va_G) (cI cO : ClassId) (a : Nat → Nat) (u : UX) (Z : Sg) (d : Dy) (hRC : RC d u) (ns nk : Nat) (hz : Zv ns nk Z) (x y : Int32) : CRc l yX3_mender wsX3_mender 2 60 D cI cO a u Z d [.int x, .int y] (menderP ns nk Z x y) := by
  unfold CRc
  refine CR.of (cc := cX3_mender) (maxL := 3) (rt := .int) (by decide) rfl (Nat.le_of_ble_eq_true rfl) ?_
  intro C hgL hgD h hret
  have hn8 := hz.n8
  have hk8 := hz.k8
  cases hp : (isIn x ns && isIn y nk) with
  | false =>
    refine g_aload_n h (pc := 0) dX3_mender_0 0 rfl ?_
    refine g_iload_n h (pc := 1) dX3_mender_1 1 rfl ?_
    refine g_iload_n h (pc := 2) dX3_mender_2 2 rfl ?_
    refine g_callR h (pc := 3) (As := [.int x, .int y]) (st := []) dX3_mender_3 (c_noplace (gL C) (gD C) cI cO a u Z d hRC ns nk hz x y) [0, 1, 2, 3, 4, 5, 6, 7, 8, 9, 10, 11, 12, 13, 14, 15, 16, 17, 18, 19, 20, 21, 22, 23, 24, 25, 26, 27, 28, 29, 30, 31, 32, 33, 34, 35, 36, 37, 38, 39, 40, 41, 42, 43, 44, 45] rfl (by decide) gX3_mender_X3_isNoPlace rfl (q0 := 0) rfl rfl (show nPar yX3_isNoPlace RX3 2 = true by decide +kernel) ⟨Nat.le_of_ble_eq_true rfl, Nat.le_of_ble_eq_true rfl⟩ rfl (Nat.le_of_ble_eq_true rfl) ⟨Nat.zero_le _, Nat.zero_le _⟩ (fun r hr => ?_)
    subst hr
    rw [hp]
    refine g_topi (y := 1) rfl ?_
    refine g_if_eq_f h (pc := 6) (tgt := 11) dX3_mender_6 (by decide) (by decide) ?_
    refine g_iconst h (pc := 9) (v := (-1)) dX3_mender_9 (by decide) ?_
    exact hret _ dX3_mender_10 rfl (by unfold menderP; rw [if_pos hp])
  | true =>
    refine g_aload_n h (pc := 0) dX3_mender_0 0 rfl ?_
    refine g_iload_n h (pc := 1) dX3_mender_1 1 rfl ?_
    refine g_iload_n h (pc := 2) dX3_mender_2 2 rfl ?_
    refine g_callR h (pc := 3) (As := [.int x, .int y]) (st := []) dX3_mender_3 (c_noplace (gL C) (gD C) cI cO a u Z d hRC ns nk hz x y) [0, 1, 2, 3, 4, 5, 6, 7, 8, 9, 10, 11, 12, 13, 14, 15, 16, 17, 18, 19, 20, 21, 22, 23, 24, 25, 26, 27, 28, 29, 30, 31, 32, 33, 34, 35, 36, 37, 38, 39, 40, 41, 42, 43, 44, 45] rfl (by decide) gX3_mender_X3_isNoPlace rfl (q0 := 0) rfl rfl (show nPar yX3_isNoPlace RX3 2 = true by decide +kernel) ⟨Nat.le_of_ble_eq_true rfl, Nat.le_of_ble_eq_true rfl⟩ rfl (Nat.le_of_ble_eq_true rfl) ⟨Nat.zero_le _, Nat.zero_le _⟩ (fun r hr => ?_)
    subst hr
    rw [hp]
    refine g_topi (y := 0) rfl ?_
    refine g_if_eq_t h (pc := 6) (tgt := 11) dX3_mender_6 (by decide) rfl ?_
    have hpp := Bool.and_eq_true_iff.mp hp
    obtain ⟨s, hs, rfl⟩ := isIn_of (by omega) hpp.1
    obtain ⟨k, hk, rfl⟩ := isIn_of (by omega) hpp.2
    have ts : tN (nI s) = s := nI_clamp (by omega)
    have tk : tN (nI k) = k := nI_clamp (by omega)
    refine g_aload_n h (pc := 11) dX3_mender_11 0 rfl ?_
    refine g_get h (pc := 12) dX3_mender_12 iX3_mender_3 0 rfl rfl 1 (by decide) fX3_mender_19 rfl ?_
    refine g_iload_n h (pc := 15) dX3_mender_15 1 rfl ?_
    refine g_iload_n h (pc := 16) dX3_mender_16 2 rfl ?_
    refine g_callR h (pc := 17) (As := [.int (nI s), .int (nI k)]) (st := []) dX3_mender_17 (c_first (gL C) (gD C) cI cO (fun i => a (10 + i)) Z ns nk hz s k hs hk) [10, 11, 12, 13, 14, 15, 16, 17, 18, 19, 20, 21] rfl (by decide) gX3_mender_X2_firstThatMends rfl (q0 := 0) rfl rfl (show nPar yX2_firstThatMends RX2 2 = true by decide +kernel) ⟨Nat.le_of_ble_eq_true rfl, Nat.le_of_ble_eq_true rfl⟩ rfl (Nat.le_of_ble_eq_true rfl) ⟨Nat.zero_le _, Nat.zero_le _⟩ (fun r hr => ?_)
    subst hr
    exact hret _ dX3_mender_20 rfl (by unfold menderP; rw [hp, if_neg (by decide), ts, tk])

theorem iX3_all_3 : ∀ w ∈ wsX30, w ∈ wsX3_all := by decide +kernel
theorem fX3_all_10 : Cond.fieldLink RX3 10 "SpareShelves" "kinds" "LSpareShelves$Kinds;" ∈ wsX3_all := by decide +kernel
theorem iX3_all_0 : ∀ w ∈ wsX00, w ∈ wsX3_all := by decide +kernel
theorem fX3_all_91 : Cond.fieldLink RX3 91 "SpareShelves$Kinds" "bought" "[I" ∈ wsX3_all := by decide +kernel
theorem fX3_all_105 : Cond.fieldLink RX3 105 "SpareShelves$Kinds" "scrapped" "[I" ∈ wsX3_all := by decide +kernel
theorem fX3_all_45 : Cond.fieldLink RX3 45 "SpareShelves" "dues" "LSpareShelves$Line;" ∈ wsX3_all := by decide +kernel
theorem fX3_all_145 : Cond.fieldLink RX3 145 "SpareShelves$Kinds" "machinesTook" "[I" ∈ wsX3_all := by decide +kernel
theorem fX3_all_148 : Cond.fieldLink RX3 148 "SpareShelves$Kinds" "mendsTook" "[I" ∈ wsX3_all := by decide +kernel
theorem fX3_all_102 : Cond.fieldLink RX3 102 "SpareShelves$Kinds" "broke" "[I" ∈ wsX3_all := by decide +kernel
set_option maxHeartbeats 4000000 in
set_option maxRecDepth 100000 in
theorem c_all (l : Launch) (D : va_G) (cI cO : ClassId) (a : Nat → Nat) (u : UX) (Z : Sg) (d : Dy) (hRC : RC d u) (ns nk : Nat) (hz : Zv ns nk Z) (hU : ∀ e ∈ d.2.2.1, (col 2 e = 0 ∨ col 2 e = 1 ∨ col 2 e = 2) ∨ col 2 e = 3) (y wh : Int32) : CRc l yX3_all wsX3_all 3 80 D cI cO a u Z d [.int y, .int wh] (allP ns nk d y wh) := by
  unfold CRc
  refine CR.of (cc := cX3_all) (maxL := 3) (rt := .int) (by decide) rfl (Nat.le_of_ble_eq_true rfl) ?_
  intro C hgL hgD h hret
  have hn8 := hz.n8
  have hk8 := hz.k8
  refine g_aload_n h (pc := 0) dX3_all_0 0 rfl ?_
  refine g_get h (pc := 1) dX3_all_1 iX3_all_3 0 rfl rfl 0 (by decide) fX3_all_10 rfl ?_
  refine g_iload_n h (pc := 4) dX3_all_4 1 rfl ?_
  refine g_callR h (pc := 5) (As := [.int y]) (st := []) dX3_all_5 (c_khas (gL C) (gD C) cI cO (fun i => a (1 + i)) Z d.1 nk hz.k8 hz.nk y) [1, 2, 3, 4, 5, 6, 7, 8, 9] rfl (by decide) gX3_all_X0_has rfl (q0 := 0) rfl rfl (show nPar yX0_has RX0 1 = true by decide +kernel) ⟨Nat.le_of_ble_eq_true rfl, Nat.le_of_ble_eq_true rfl⟩ rfl (Nat.le_of_ble_eq_true rfl) ⟨Nat.zero_le _, Nat.zero_le _⟩ (fun r hr => ?_)
  subst hr
  cases hp : isIn y nk with
  | false =>
    refine g_topi (y := 0) rfl ?_
    refine g_if_ne_f h (pc := 8) (tgt := 13) dX3_all_8 (by decide) rfl ?_
    refine g_iconst h (pc := 11) (v := (-1)) dX3_all_11 (by decide) ?_
    exact hret _ dX3_all_12 rfl (by unfold allP; rw [if_pos hp])
  | true =>
    refine g_topi (y := 1) rfl ?_
    refine g_if_ne_t h (pc := 8) (tgt := 13) dX3_all_8 (by decide) (by decide) ?_
    obtain ⟨k, hk, rfl⟩ := isIn_of (by omega) hp
    have tk : tN (nI k) = k := nI_clamp (by omega)
    refine g_iload_n h (pc := 13) dX3_all_13 2 rfl ?_
    have e0 : ∀ q, allP ns nk d (nI k) q = sw q [d.1 9 0 k, d.1 10 0 k, sumI (fun s => d.1 7 s k) ns, nI (d.2.2.1.countP (duc (-1) (nI k) 0)) + nI (d.2.2.1.countP (duc (-1) (nI k) 3)), nI (d.2.2.1.countP (duc (-1) (nI k) 1)) + nI (d.2.1.countP (fitB (-1) (-1) 2 (nI k))), nI (d.2.2.1.countP (duc (-1) (nI k) 2)), d.1 11 0 k, d.1 12 0 k, d.1 13 0 k] := by
      intro q
      unfold allP
      rw [hp, if_neg (by decide), tk]
    cases hsw : isIn wh 9 with
    | false =>
      refine g_tblOut h (pc := 14) (tgt := 175) dX3_all_14 (isIn_out hsw rfl) (by decide) ?_
      refine g_iconst h (pc := 175) (v := (-1)) dX3_all_175 (by decide) ?_
      exact hret _ dX3_all_176 rfl (by rw [e0]; exact (sw_out hsw).symm)
    | true =>
      obtain ⟨j9, hj9, rfl⟩ := isIn_of (by omega) hsw
      rcases (show j9 = 0 ∨ j9 = 1 ∨ j9 = 2 ∨ j9 = 3 ∨ j9 = 4 ∨ j9 = 5 ∨ j9 = 6 ∨ j9 = 7 ∨ j9 = 8 by omega) with rfl | rfl | rfl | rfl | rfl | rfl | rfl | rfl | rfl
      · refine g_tblIn h (pc := 14) (tgt := 64) dX3_all_14 (by decide) (by decide) (off := 50) (by decide) (by decide) ?_
        refine g_aload_n h (pc := 64) dX3_all_64 0 rfl ?_
        refine g_get h (pc := 65) dX3_all_65 iX3_all_3 0 rfl rfl 0 (by decide) fX3_all_10 rfl ?_
        refine g_get h (pc := 68) dX3_all_68 iX3_all_0 1 rfl rfl 3 (by decide) fX3_all_91 rfl ?_
        refine g_iload_n h (pc := 71) dX3_all_71 1 rfl ?_
        refine g_iald h (pc := 72) (v := d.1 9 0 k) dX3_all_72 5 rfl (vp_in_nI (by omega) (by omega)) (by rw [nI_clamp (by omega)]) ?_
        exact hret _ dX3_all_73 rfl (by rw [e0]; exact (sw_in (j := 0) (Nat.le_of_ble_eq_true rfl) (Nat.le_of_ble_eq_true rfl) rfl).symm)
      · refine g_tblIn h (pc := 14) (tgt := 74) dX3_all_14 (by decide) (by decide) (off := 60) (by decide) (by decide) ?_
        refine g_aload_n h (pc := 74) dX3_all_74 0 rfl ?_
        refine g_get h (pc := 75) dX3_all_75 iX3_all_3 0 rfl rfl 0 (by decide) fX3_all_10 rfl ?_
        refine g_get h (pc := 78) dX3_all_78 iX3_all_0 1 rfl rfl 4 (by decide) fX3_all_105 rfl ?_
        refine g_iload_n h (pc := 81) dX3_all_81 1 rfl ?_
        refine g_iald h (pc := 82) (v := d.1 10 0 k) dX3_all_82 6 rfl (vp_in_nI (by omega) (by omega)) (by rw [nI_clamp (by omega)]) ?_
        exact hret _ dX3_all_83 rfl (by rw [e0]; exact (sw_in (j := 1) (Nat.le_of_ble_eq_true rfl) (Nat.le_of_ble_eq_true rfl) rfl).symm)
      · refine g_tblIn h (pc := 14) (tgt := 84) dX3_all_14 (by decide) (by decide) (off := 70) (by decide) (by decide) ?_
        refine g_aload_n h (pc := 84) dX3_all_84 0 rfl ?_
        refine g_iload_n h (pc := 85) dX3_all_85 1 rfl ?_
        refine g_callR h (pc := 86) (As := [.int (nI k)]) (st := []) dX3_all_86 (c_goods (gL C) (gD C) cI cO a u Z d hRC ns nk hz k hk) [0, 1, 2, 3, 4, 5, 6, 7, 8, 9, 10, 11, 12, 13, 14, 15, 16, 17, 18, 19, 20, 21, 22, 23, 24, 25, 26, 27, 28, 29, 30, 31, 32, 33, 34, 35, 36, 37, 38, 39, 40, 41, 42, 43, 44, 45] rfl (by decide) gX3_all_X3_goodOnShelves rfl (q0 := 0) rfl rfl (show nPar yX3_goodOnShelves RX3 1 = true by decide +kernel) ⟨Nat.le_of_ble_eq_true rfl, Nat.le_of_ble_eq_true rfl⟩ rfl (Nat.le_of_ble_eq_true rfl) ⟨Nat.zero_le _, Nat.zero_le _⟩ (fun r hr => ?_)
        subst hr
        exact hret _ dX3_all_89 rfl (by rw [e0]; exact (sw_in (j := 2) (Nat.le_of_ble_eq_true rfl) (Nat.le_of_ble_eq_true rfl) rfl).symm)
      · refine g_tblIn h (pc := 14) (tgt := 90) dX3_all_14 (by decide) (by decide) (off := 76) (by decide) (by decide) ?_
        refine g_aload_n h (pc := 90) dX3_all_90 0 rfl ?_
        refine g_get h (pc := 91) dX3_all_91 iX3_all_3 0 rfl rfl 7 (by decide) fX3_all_45 rfl ?_
        refine g_iconst h (pc := 94) (v := (-1)) dX3_all_94 (by decide) ?_
        refine g_iload_n h (pc := 95) dX3_all_95 1 rfl ?_
        refine g_iconst h (pc := 96) (v := 0) dX3_all_96 (by decide) ?_
        refine g_iconst h (pc := 97) (v := (-1)) dX3_all_97 (by decide) ?_
        refine g_callR h (pc := 98) (As := [.int (-1), .int (nI k), .int 0, .int (-1)]) (st := []) dX3_all_98 (c_tally (gL C) (gD C) cI cO (lb (a 44) u.2.1) d.2.2.2.2 u.2.2.2.2 (d.2.2.1.map ce) hRC.2.1 (-1) (nI k) 0 (-1)) [44, 45] rfl (by decide) gX3_all_X1_tally rfl (q0 := 0) rfl rfl (show nPar yX1_tally RX1 4 = true by decide +kernel) ⟨Nat.le_of_ble_eq_true rfl, Nat.le_of_ble_eq_true rfl⟩ rfl (Nat.le_of_ble_eq_true rfl) ⟨Nat.zero_le _, Nat.zero_le _⟩ (fun r hr => ?_)
        subst hr
        refine g_aload_n h (pc := 101) dX3_all_101 0 rfl ?_
        refine g_get h (pc := 102) dX3_all_102 iX3_all_3 0 rfl rfl 7 (by decide) fX3_all_45 rfl ?_
        refine g_iconst h (pc := 105) (v := (-1)) dX3_all_105 (by decide) ?_
        refine g_iload_n h (pc := 106) dX3_all_106 1 rfl ?_
        refine g_iconst h (pc := 107) (v := 1) dX3_all_107 (by decide) ?_
        refine g_iconst h (pc := 108) (v := (-1)) dX3_all_108 (by decide) ?_
        refine g_callR h (pc := 109) (As := [.int (-1), .int (nI k), .int 1, .int (-1)]) (st := [.int (nI ((d.2.2.1.map ce).countP (fitB (-1) (nI k) 0 (-1))))]) dX3_all_109 (c_tally (gL C) (gD C) cI cO (lb (a 44) u.2.1) d.2.2.2.2 u.2.2.2.2 (d.2.2.1.map ce) hRC.2.1 (-1) (nI k) 1 (-1)) [44, 45] rfl (by decide) gX3_all_X1_tally rfl (q0 := 0) rfl rfl (show nPar yX1_tally RX1 4 = true by decide +kernel) ⟨Nat.le_of_ble_eq_true rfl, Nat.le_of_ble_eq_true rfl⟩ rfl (Nat.le_of_ble_eq_true rfl) ⟨Nat.zero_le _, Nat.zero_le _⟩ (fun r hr => ?_)
        subst hr
        refine g_iadd h (pc := 112) dX3_all_112  ?_
        have t1 := tallyU (s := -1) (k := nI k) (so := 0) (by decide) hU
        have t2 := tallyU (s := -1) (k := nI k) (so := 3) (by decide) hU
        rw [show cso 0 = 0 by decide] at t1
        rw [show cso 3 = 1 by decide] at t2
        exact hret _ dX3_all_113 rfl (by rw [e0, t1, t2]; exact (sw_in (j := 3) (Nat.le_of_ble_eq_true rfl) (Nat.le_of_ble_eq_true rfl) rfl).symm)
      · refine g_tblIn h (pc := 14) (tgt := 114) dX3_all_14 (by decide) (by decide) (off := 100) (by decide) (by decide) ?_
        refine g_aload_n h (pc := 114) dX3_all_114 0 rfl ?_
        refine g_get h (pc := 115) dX3_all_115 iX3_all_3 0 rfl rfl 7 (by decide) fX3_all_45 rfl ?_
        refine g_iconst h (pc := 118) (v := (-1)) dX3_all_118 (by decide) ?_
        refine g_iload_n h (pc := 119) dX3_all_119 1 rfl ?_
        refine g_iconst h (pc := 120) (v := 2) dX3_all_120 (by decide) ?_
        refine g_iconst h (pc := 121) (v := (-1)) dX3_all_121 (by decide) ?_
        refine g_callR h (pc := 122) (As := [.int (-1), .int (nI k), .int 2, .int (-1)]) (st := []) dX3_all_122 (c_tally (gL C) (gD C) cI cO (lb (a 44) u.2.1) d.2.2.2.2 u.2.2.2.2 (d.2.2.1.map ce) hRC.2.1 (-1) (nI k) 2 (-1)) [44, 45] rfl (by decide) gX3_all_X1_tally rfl (q0 := 0) rfl rfl (show nPar yX1_tally RX1 4 = true by decide +kernel) ⟨Nat.le_of_ble_eq_true rfl, Nat.le_of_ble_eq_true rfl⟩ rfl (Nat.le_of_ble_eq_true rfl) ⟨Nat.zero_le _, Nat.zero_le _⟩ (fun r hr => ?_)
        subst hr
        refine g_aload_n h (pc := 125) dX3_all_125 0 rfl ?_
        refine g_iconst h (pc := 126) (v := (-1)) dX3_all_126 (by decide) ?_
        refine g_iload_n h (pc := 127) dX3_all_127 1 rfl ?_
        refine g_callR h (pc := 128) (As := [.int (-1), .int (nI k)]) (st := [.int (nI ((d.2.2.1.map ce).countP (fitB (-1) (nI k) 2 (-1))))]) dX3_all_128 (c_mwait (gL C) (gD C) cI cO a u Z d hRC ns nk hz (-1) (nI k)) [0, 1, 2, 3, 4, 5, 6, 7, 8, 9, 10, 11, 12, 13, 14, 15, 16, 17, 18, 19, 20, 21, 22, 23, 24, 25, 26, 27, 28, 29, 30, 31, 32, 33, 34, 35, 36, 37, 38, 39, 40, 41, 42, 43, 44, 45] rfl (by decide) gX3_all_X3_mendsThatWait rfl (q0 := 0) rfl rfl (show nPar yX3_mendsThatWait RX3 2 = true by decide +kernel) ⟨Nat.le_of_ble_eq_true rfl, Nat.le_of_ble_eq_true rfl⟩ rfl (Nat.le_of_ble_eq_true rfl) ⟨Nat.zero_le _, Nat.zero_le _⟩ (fun r hr => ?_)
        subst hr
        refine g_iadd h (pc := 131) dX3_all_131  ?_
        have t1 := tallyU (s := -1) (k := nI k) (so := 1) (by decide) hU
        rw [show cso 1 = 2 by decide] at t1
        exact hret _ dX3_all_132 rfl (by rw [e0, t1]; exact (sw_in (j := 4) (Nat.le_of_ble_eq_true rfl) (Nat.le_of_ble_eq_true rfl) rfl).symm)
      · refine g_tblIn h (pc := 14) (tgt := 133) dX3_all_14 (by decide) (by decide) (off := 119) (by decide) (by decide) ?_
        refine g_aload_n h (pc := 133) dX3_all_133 0 rfl ?_
        refine g_get h (pc := 134) dX3_all_134 iX3_all_3 0 rfl rfl 7 (by decide) fX3_all_45 rfl ?_
        refine g_iconst h (pc := 137) (v := (-1)) dX3_all_137 (by decide) ?_
        refine g_iload_n h (pc := 138) dX3_all_138 1 rfl ?_
        refine g_iconst h (pc := 139) (v := 3) dX3_all_139 (by decide) ?_
        refine g_iconst h (pc := 140) (v := (-1)) dX3_all_140 (by decide) ?_
        refine g_callR h (pc := 141) (As := [.int (-1), .int (nI k), .int 3, .int (-1)]) (st := []) dX3_all_141 (c_tally (gL C) (gD C) cI cO (lb (a 44) u.2.1) d.2.2.2.2 u.2.2.2.2 (d.2.2.1.map ce) hRC.2.1 (-1) (nI k) 3 (-1)) [44, 45] rfl (by decide) gX3_all_X1_tally rfl (q0 := 0) rfl rfl (show nPar yX1_tally RX1 4 = true by decide +kernel) ⟨Nat.le_of_ble_eq_true rfl, Nat.le_of_ble_eq_true rfl⟩ rfl (Nat.le_of_ble_eq_true rfl) ⟨Nat.zero_le _, Nat.zero_le _⟩ (fun r hr => ?_)
        subst hr
        have t1 := tallyU (s := -1) (k := nI k) (so := 2) (by decide) hU
        rw [show cso 2 = 3 by decide] at t1
        exact hret _ dX3_all_144 rfl (by rw [e0, t1]; exact (sw_in (j := 5) (Nat.le_of_ble_eq_true rfl) (Nat.le_of_ble_eq_true rfl) rfl).symm)
      · refine g_tblIn h (pc := 14) (tgt := 145) dX3_all_14 (by decide) (by decide) (off := 131) (by decide) (by decide) ?_
        refine g_aload_n h (pc := 145) dX3_all_145 0 rfl ?_
        refine g_get h (pc := 146) dX3_all_146 iX3_all_3 0 rfl rfl 0 (by decide) fX3_all_10 rfl ?_
        refine g_get h (pc := 149) dX3_all_149 iX3_all_0 1 rfl rfl 5 (by decide) fX3_all_145 rfl ?_
        refine g_iload_n h (pc := 152) dX3_all_152 1 rfl ?_
        refine g_iald h (pc := 153) (v := d.1 11 0 k) dX3_all_153 7 rfl (vp_in_nI (by omega) (by omega)) (by rw [nI_clamp (by omega)]) ?_
        exact hret _ dX3_all_154 rfl (by rw [e0]; exact (sw_in (j := 6) (Nat.le_of_ble_eq_true rfl) (Nat.le_of_ble_eq_true rfl) rfl).symm)
      · refine g_tblIn h (pc := 14) (tgt := 155) dX3_all_14 (by decide) (by decide) (off := 141) (by decide) (by decide) ?_
        refine g_aload_n h (pc := 155) dX3_all_155 0 rfl ?_
        refine g_get h (pc := 156) dX3_all_156 iX3_all_3 0 rfl rfl 0 (by decide) fX3_all_10 rfl ?_
        refine g_get h (pc := 159) dX3_all_159 iX3_all_0 1 rfl rfl 6 (by decide) fX3_all_148 rfl ?_
        refine g_iload_n h (pc := 162) dX3_all_162 1 rfl ?_
        refine g_iald h (pc := 163) (v := d.1 12 0 k) dX3_all_163 8 rfl (vp_in_nI (by omega) (by omega)) (by rw [nI_clamp (by omega)]) ?_
        exact hret _ dX3_all_164 rfl (by rw [e0]; exact (sw_in (j := 7) (Nat.le_of_ble_eq_true rfl) (Nat.le_of_ble_eq_true rfl) rfl).symm)
      · refine g_tblIn h (pc := 14) (tgt := 165) dX3_all_14 (by decide) (by decide) (off := 151) (by decide) (by decide) ?_
        refine g_aload_n h (pc := 165) dX3_all_165 0 rfl ?_
        refine g_get h (pc := 166) dX3_all_166 iX3_all_3 0 rfl rfl 0 (by decide) fX3_all_10 rfl ?_
        refine g_get h (pc := 169) dX3_all_169 iX3_all_0 1 rfl rfl 7 (by decide) fX3_all_102 rfl ?_
        refine g_iload_n h (pc := 172) dX3_all_172 1 rfl ?_
        refine g_iald h (pc := 173) (v := d.1 13 0 k) dX3_all_173 9 rfl (vp_in_nI (by omega) (by omega)) (by rw [nI_clamp (by omega)]) ?_
        exact hret _ dX3_all_174 rfl (by rw [e0]; exact (sw_in (j := 8) (Nat.le_of_ble_eq_true rfl) (Nat.le_of_ble_eq_true rfl) rfl).symm)

theorem iX3_field_3 : ∀ w ∈ wsX30, w ∈ wsX3_field := by decide +kernel
theorem fX3_field_19 : Cond.fieldLink RX3 19 "SpareShelves" "tree" "LSpareShelves$Tree;" ∈ wsX3_field := by decide +kernel
theorem iX3_field_2 : ∀ w ∈ wsX20, w ∈ wsX3_field := by decide +kernel
theorem fX3_field_77 : Cond.fieldLink RX3 77 "SpareShelves$Tree" "up" "[I" ∈ wsX3_field := by decide +kernel
theorem fX3_field_80 : Cond.fieldLink RX3 80 "SpareShelves$Tree" "way" "[I" ∈ wsX3_field := by decide +kernel
theorem fX3_field_41 : Cond.fieldLink RX3 41 "SpareShelves" "asks" "LSpareShelves$Line;" ∈ wsX3_field := by decide +kernel
theorem fX3_field_31 : Cond.fieldLink RX3 31 "SpareShelves" "stood" "[I" ∈ wsX3_field := by decide +kernel
set_option maxHeartbeats 4000000 in
set_option maxRecDepth 100000 in
theorem c_field (l : Launch) (D : va_G) (cI cO : ClassId) (a : Nat → Nat) (u : UX) (Z : Sg) (d : Dy) (hRC : RC d u) (ns nk : Nat) (hz : Zv ns nk Z) (hlA : d.2.1.length ≤ 20000) (x wh : Int32) : CRc l yX3_field wsX3_field 2 60 D cI cO a u Z d [.int x, .int wh] (fieldP ns Z d x wh) := by
  unfold CRc
  refine CR.of (cc := cX3_field) (maxL := 3) (rt := .int) (by decide) rfl (Nat.le_of_ble_eq_true rfl) ?_
  intro C hgL hgD h hret
  have hn8 := hz.n8
  have hk8 := hz.k8
  refine g_aload_n h (pc := 0) dX3_field_0 0 rfl ?_
  refine g_get h (pc := 1) dX3_field_1 iX3_field_3 0 rfl rfl 1 (by decide) fX3_field_19 rfl ?_
  refine g_iload_n h (pc := 4) dX3_field_4 1 rfl ?_
  refine g_callR h (pc := 5) (As := [.int x]) (st := []) dX3_field_5 (c_thas (gL C) (gD C) cI cO (fun i => a (10 + i)) Z ns hz.n8 hz.ns x) [10, 11, 12, 13, 14, 15, 16, 17, 18, 19, 20, 21] rfl (by decide) gX3_field_X2_has rfl (q0 := 0) rfl rfl (show nPar yX2_has RX2 1 = true by decide +kernel) ⟨Nat.le_of_ble_eq_true rfl, Nat.le_of_ble_eq_true rfl⟩ rfl (Nat.le_of_ble_eq_true rfl) ⟨Nat.zero_le _, Nat.zero_le _⟩ (fun r hr => ?_)
  subst hr
  cases hp : isIn x ns with
  | false =>
    refine g_topi (y := 0) rfl ?_
    refine g_if_ne_f h (pc := 8) (tgt := 13) dX3_field_8 (by decide) rfl ?_
    refine g_iconst h (pc := 11) (v := (-1)) dX3_field_11 (by decide) ?_
    exact hret _ dX3_field_12 rfl (by unfold fieldP; rw [if_pos hp])
  | true =>
    refine g_topi (y := 1) rfl ?_
    refine g_if_ne_t h (pc := 8) (tgt := 13) dX3_field_8 (by decide) (by decide) ?_
    obtain ⟨s, hs, rfl⟩ := isIn_of (by omega) hp
    have ts : tN (nI s) = s := nI_clamp (by omega)
    refine g_iload_n h (pc := 13) dX3_field_13 2 rfl ?_
    have e0 : ∀ q, fieldP ns Z d (nI s) q = sw q [Z 3 0 s, Z 4 0 s, nI (d.2.1.countP (fitB (nI s) (-1) 0 (-1))), d.1 5 0 s, oc 3 (nth (fitB (nI s) (-1) 0 (-1)) d.2.1 0)] := by
      intro q
      unfold fieldP
      rw [hp, if_neg (by decide), ts]
    cases hsw : isIn wh 5 with
    | false =>
      refine g_tblOut h (pc := 14) (tgt := 107) dX3_field_14 (isIn_out hsw rfl) (by decide) ?_
      refine g_iconst h (pc := 107) (v := (-1)) dX3_field_107 (by decide) ?_
      exact hret _ dX3_field_108 rfl (by rw [e0]; exact (sw_out hsw).symm)
    | true =>
      obtain ⟨j9, hj9, rfl⟩ := isIn_of (by omega) hsw
      rcases (show j9 = 0 ∨ j9 = 1 ∨ j9 = 2 ∨ j9 = 3 ∨ j9 = 4 by omega) with rfl | rfl | rfl | rfl | rfl
      · refine g_tblIn h (pc := 14) (tgt := 48) dX3_field_14 (by decide) (by decide) (off := 34) (by decide) (by decide) ?_
        refine g_aload_n h (pc := 48) dX3_field_48 0 rfl ?_
        refine g_get h (pc := 49) dX3_field_49 iX3_field_3 0 rfl rfl 1 (by decide) fX3_field_19 rfl ?_
        refine g_get h (pc := 52) dX3_field_52 iX3_field_2 10 rfl rfl 0 (by decide) fX3_field_77 rfl ?_
        refine g_iload_n h (pc := 55) dX3_field_55 1 rfl ?_
        refine g_iald h (pc := 56) (v := Z 3 0 s) dX3_field_56 11 rfl (vp_in_nI (by omega) (by omega)) (by rw [nI_clamp (by omega)]) ?_
        exact hret _ dX3_field_57 rfl (by rw [e0]; exact (sw_in (j := 0) (Nat.le_of_ble_eq_true rfl) (Nat.le_of_ble_eq_true rfl) rfl).symm)
      · refine g_tblIn h (pc := 14) (tgt := 58) dX3_field_14 (by decide) (by decide) (off := 44) (by decide) (by decide) ?_
        refine g_aload_n h (pc := 58) dX3_field_58 0 rfl ?_
        refine g_get h (pc := 59) dX3_field_59 iX3_field_3 0 rfl rfl 1 (by decide) fX3_field_19 rfl ?_
        refine g_get h (pc := 62) dX3_field_62 iX3_field_2 10 rfl rfl 1 (by decide) fX3_field_80 rfl ?_
        refine g_iload_n h (pc := 65) dX3_field_65 1 rfl ?_
        refine g_iald h (pc := 66) (v := Z 4 0 s) dX3_field_66 12 rfl (vp_in_nI (by omega) (by omega)) (by rw [nI_clamp (by omega)]) ?_
        exact hret _ dX3_field_67 rfl (by rw [e0]; exact (sw_in (j := 1) (Nat.le_of_ble_eq_true rfl) (Nat.le_of_ble_eq_true rfl) rfl).symm)
      · refine g_tblIn h (pc := 14) (tgt := 68) dX3_field_14 (by decide) (by decide) (off := 54) (by decide) (by decide) ?_
        refine g_aload_n h (pc := 68) dX3_field_68 0 rfl ?_
        refine g_get h (pc := 69) dX3_field_69 iX3_field_3 0 rfl rfl 6 (by decide) fX3_field_41 rfl ?_
        refine g_iload_n h (pc := 72) dX3_field_72 1 rfl ?_
        refine g_iconst h (pc := 73) (v := (-1)) dX3_field_73 (by decide) ?_
        refine g_iconst h (pc := 74) (v := 0) dX3_field_74 (by decide) ?_
        refine g_iconst h (pc := 75) (v := (-1)) dX3_field_75 (by decide) ?_
        refine g_callR h (pc := 76) (As := [.int (nI s), .int (-1), .int 0, .int (-1)]) (st := []) dX3_field_76 (c_tally (gL C) (gD C) cI cO (lb (a 42) u.1) d.2.2.2.1 u.2.2.2.1 d.2.1 hRC.1 (nI s) (-1) 0 (-1)) [42, 43] rfl (by decide) gX3_field_X1_tally rfl (q0 := 0) rfl rfl (show nPar yX1_tally RX1 4 = true by decide +kernel) ⟨Nat.le_of_ble_eq_true rfl, Nat.le_of_ble_eq_true rfl⟩ rfl (Nat.le_of_ble_eq_true rfl) ⟨Nat.zero_le _, Nat.zero_le _⟩ (fun r hr => ?_)
        subst hr
        exact hret _ dX3_field_79 rfl (by rw [e0]; exact (sw_in (j := 2) (Nat.le_of_ble_eq_true rfl) (Nat.le_of_ble_eq_true rfl) rfl).symm)
      · refine g_tblIn h (pc := 14) (tgt := 80) dX3_field_14 (by decide) (by decide) (off := 66) (by decide) (by decide) ?_
        refine g_aload_n h (pc := 80) dX3_field_80 0 rfl ?_
        refine g_get h (pc := 81) dX3_field_81 iX3_field_3 0 rfl rfl 4 (by decide) fX3_field_31 rfl ?_
        refine g_iload_n h (pc := 84) dX3_field_84 1 rfl ?_
        refine g_iald h (pc := 85) (v := d.1 5 0 s) dX3_field_85 40 rfl (vp_in_nI (by omega) (by omega)) (by rw [nI_clamp (by omega)]) ?_
        exact hret _ dX3_field_86 rfl (by rw [e0]; exact (sw_in (j := 3) (Nat.le_of_ble_eq_true rfl) (Nat.le_of_ble_eq_true rfl) rfl).symm)
      · refine g_tblIn h (pc := 14) (tgt := 87) dX3_field_14 (by decide) (by decide) (off := 73) (by decide) (by decide) ?_
        refine g_aload_n h (pc := 87) dX3_field_87 0 rfl ?_
        refine g_get h (pc := 88) dX3_field_88 iX3_field_3 0 rfl rfl 6 (by decide) fX3_field_41 rfl ?_
        refine g_aload_n h (pc := 91) dX3_field_91 0 rfl ?_
        refine g_get h (pc := 92) dX3_field_92 iX3_field_3 0 rfl rfl 6 (by decide) fX3_field_41 rfl ?_
        refine g_iload_n h (pc := 95) dX3_field_95 1 rfl ?_
        refine g_iconst h (pc := 96) (v := (-1)) dX3_field_96 (by decide) ?_
        refine g_iconst h (pc := 97) (v := 0) dX3_field_97 (by decide) ?_
        refine g_iconst h (pc := 98) (v := 0) dX3_field_98 (by decide) ?_
        refine g_callR h (pc := 99) (As := [.int (nI s), .int (-1), .int 0, .int 0]) (st := [.ref (a 42)]) dX3_field_99 (c_find (gL C) (gD C) cI cO (lb (a 42) u.1) d.2.2.2.1 u.2.2.2.1 d.2.1 hRC.1 (nI s) (-1) 0 0) [42, 43] rfl (by decide) gX3_field_X1_find rfl (q0 := 0) rfl rfl (show nPar yX1_find RX1 4 = true by decide +kernel) ⟨Nat.le_of_ble_eq_true rfl, Nat.le_of_ble_eq_true rfl⟩ rfl (Nat.le_of_ble_eq_true rfl) ⟨Nat.zero_le _, Nat.zero_le _⟩ (fun r hr => ?_)
        subst hr
        rcases fnd_nth (fitB (nI s) (-1) 0 (-1)) d.2.1 0 0 with ⟨f1, f2⟩ | ⟨i2, e, f1, f2, f3⟩
        · rw [f1]
          refine g_iconst h (pc := 102) (v := 3) dX3_field_102 (by decide) ?_
          refine g_callR h (pc := 103) (As := [.int (-1), .int 3]) (st := []) dX3_field_103 (c_readN (gL C) (gD C) cI cO (lb (a 42) u.1) d.2.2.2.1 u.2.2.2.1 (nI d.2.1.length) 3) [42, 43] rfl (by decide) gX3_field_X1_read rfl (q0 := 0) rfl rfl (show nPar yX1_read RX1 2 = true by decide +kernel) ⟨Nat.le_of_ble_eq_true rfl, Nat.le_of_ble_eq_true rfl⟩ rfl (Nat.le_of_ble_eq_true rfl) ⟨Nat.zero_le _, Nat.zero_le _⟩ (fun r hr => ?_)
          subst hr
          exact hret _ dX3_field_106 rfl (by rw [e0, f2]; exact (sw_in (j := 4) (Nat.le_of_ble_eq_true rfl) (Nat.le_of_ble_eq_true rfl) rfl).symm)
        · rw [f1, Nat.zero_add]
          refine g_iconst h (pc := 102) (v := 3) dX3_field_102 (by decide) ?_
          refine g_callR h (pc := 103) (As := [.int (nI i2), .int 3]) (st := []) dX3_field_103 (c_read (gL C) (gD C) cI cO (lb (a 42) u.1) d.2.2.2.1 u.2.2.2.1 d.2.1 hRC.1 i2 e f2 3 (by decide) _ 3 rfl rfl) [42, 43] rfl (by decide) gX3_field_X1_read rfl (q0 := 0) rfl rfl (show nPar yX1_read RX1 2 = true by decide +kernel) ⟨Nat.le_of_ble_eq_true rfl, Nat.le_of_ble_eq_true rfl⟩ rfl (Nat.le_of_ble_eq_true rfl) ⟨Nat.zero_le _, Nat.zero_le _⟩ (fun r hr => ?_)
          subst hr
          exact hret _ dX3_field_106 rfl (by rw [e0, f3]; exact (sw_in (j := 4) (Nat.le_of_ble_eq_true rfl) (Nat.le_of_ble_eq_true rfl) rfl).symm)
